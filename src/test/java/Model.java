import java.util.ArrayList;
import java.util.Arrays;
import java.util.BitSet;
import java.util.List;

/**
 * The document once more, word by word and slowly: rows are sets, bytes are bytes, and what follows
 * from rows is worked out anew from all of them each time it is asked. Other ways than the class
 * takes, so that one mistake is not made twice.
 */
final class Model {
    static final int[] FIRST_TABLE = {1, 50, 17, 8, 5, 3, 2, 2, 1, 1, 1, 9};

    /** A set of parts with the bytes that it sums to. */
    private static final class Told {
        final BitSet parts;
        final int[] bytes;

        Told(BitSet parts, int[] bytes) {
            this.parts = (BitSet) parts.clone();
            this.bytes = bytes.clone();
        }

        void xor(Told other) {
            parts.xor(other.parts);
            xorInto(bytes, other.bytes);
        }
    }

    private static final class Taken {
        final int x;
        final int[] bytes;

        Taken(int x, int[] bytes) {
            this.x = x;
            this.bytes = bytes;
        }
    }

    private static final class Source {
        int k;
        int p;
        int size;
        int seed;
        int[] table;
        int[][] symbols;
        List<Taken> taken = new ArrayList<>();
        int wrong;
        int twice;
        int contrary;

        BitSet sum(int j) {
            BitSet set = new BitSet();
            long z = (seed + 40503L * (j + 1)) & 0xFFFFFFFFL;
            for (int i = 0; i < k; i++) {
                z = step(z);
                if ((drawn(z) & 0x40000000L) != 0) {
                    set.set(i);
                }
            }
            return set;
        }

        int[] partBytes(int i) {
            if (i < k) {
                return symbols[i].clone();
            }
            int[] bytes = new int[size];
            BitSet of = sum(i - k);
            for (int s = of.nextSetBit(0); s >= 0; s = of.nextSetBit(s + 1)) {
                xorInto(bytes, symbols[s]);
            }
            return bytes;
        }

        BitSet rowOf(int x) {
            return rowSet(k, p, seed, table, x);
        }

        int[] output(int x) {
            int[] bytes = new int[size];
            BitSet of = rowOf(x);
            for (int i = of.nextSetBit(0); i >= 0; i = of.nextSetBit(i + 1)) {
                xorInto(bytes, partBytes(i));
            }
            return bytes;
        }

        List<Told> rows() {
            List<Told> rows = new ArrayList<>();
            for (int j = 0; j < p; j++) {
                BitSet set = sum(j);
                set.set(k + j);
                rows.add(new Told(set, new int[size]));
            }
            for (Taken t : taken) {
                rows.add(new Told(rowOf(t.x), t.bytes));
            }
            return rows;
        }

        int rank() {
            return steps(rows()).size();
        }
    }

    private final int[] table = FIRST_TABLE.clone();
    private final List<Source> sources = new ArrayList<>();
    private Source frameSource;
    private int[] frame;
    private int[] image = new int[0];

    static long step(long z) {
        return (z * 1664525L + 1013904223L) & 0xFFFFFFFFL;
    }

    static long drawn(long z) {
        return z / 2;
    }

    static void xorInto(int[] bytes, int[] other) {
        for (int i = 0; i < bytes.length; i++) {
            bytes[i] ^= other[i];
        }
    }

    static BitSet rowSet(int k, int p, int seed, int[] table, int x) {
        BitSet set = new BitSet();
        if (x < k) {
            set.set(x);
            return set;
        }
        long z = step((seed ^ (x * 40503L)) & 0xFFFFFFFFL);
        long t = drawn(z) % Arrays.stream(table).sum();
        int degree = 1;
        while (Arrays.stream(table, 0, degree).sum() <= t) {
            degree++;
        }
        while (set.cardinality() < Math.min(degree, k + p)) {
            z = step(z);
            int i = (int) (drawn(z) % (k + p));
            while (set.get(i)) {
                i = (i + 1) % (k + p);
            }
            set.set(i);
        }
        return set;
    }

    /** The SUM, as a division of the bits one by one. */
    static int sumOf(int[] bytes, int from, int to) {
        int sum = 0xFFFF;
        for (int i = from; i < to; i++) {
            for (int bit = 7; bit >= 0; bit--) {
                int out = ((sum >> 15) ^ (bytes[i] >> bit)) & 1;
                sum = (sum << 1) & 0xFFFF;
                if (out == 1) {
                    sum ^= 0x1021;
                }
            }
        }
        return sum;
    }

    /** Rows in steps: each has a highest part that no later one has at its top. */
    private static List<Told> steps(List<Told> rows) {
        List<Told> steps = new ArrayList<>();
        for (Told row : rows) {
            Told rest = rest(steps, row);
            if (!rest.parts.isEmpty()) {
                steps.add(rest);
                steps.sort((a, b) -> b.parts.length() - a.parts.length());
            }
        }
        return steps;
    }

    private static Told rest(List<Told> steps, Told row) {
        Told rest = new Told(row.parts, row.bytes);
        for (Told step : steps) {
            if (rest.parts.get(step.parts.length() - 1)) {
                rest.xor(step);
            }
        }
        return rest;
    }

    static long number(int[] bytes) {
        long number = 0;
        for (int b : bytes) {
            number = number * 256 + b;
        }
        return number;
    }

    private static long bits(BitSet set) {
        long[] words = set.toLongArray();
        return words.length == 0 ? 0 : words[0];
    }

    private Source at(int source) {
        return source >= 0 && source < sources.size() ? sources.get(source) : null;
    }

    int degree(int d, int weight) {
        if (d < 1 || d > 12) {
            return -1;
        }
        if (weight < 0 || weight > 100) {
            return -2;
        }
        int was = table[d - 1];
        table[d - 1] = weight;
        return was;
    }

    int source(int k, int p, int size, int seed) {
        if (k < 1 || k > 32 || p < 0 || p > 8 || size < 1 || size > 8) {
            return -2;
        }
        if (Arrays.stream(table).sum() == 0) {
            return -3;
        }
        if (sources.size() == 4) {
            return -4;
        }
        Source s = new Source();
        s.k = k;
        s.p = p;
        s.size = size;
        s.seed = seed;
        s.table = table.clone();
        s.symbols = new int[k][size];
        sources.add(s);
        return sources.size() - 1;
    }

    int symbol(int source, int i, long v) {
        Source s = at(source);
        if (s == null || i < 0 || i >= s.k) {
            return -1;
        }
        long left = v;
        for (int b = s.size - 1; b >= 0; b--) {
            s.symbols[i][b] = (int) Math.floorMod(left, 256L);
            left = Math.floorDiv(left, 256L);
        }
        return 1;
    }

    long row(int source, int x) {
        Source s = at(source);
        if (s == null) {
            return -1;
        }
        return x < 0 || x > 65535 ? -2 : bits(s.rowOf(x));
    }

    long sumRow(int source, int j) {
        Source s = at(source);
        return s == null || j < 0 || j >= s.p ? -1 : bits(s.sum(j));
    }

    long part(int source, int i) {
        Source s = at(source);
        return s == null || i < 0 || i >= s.k + s.p ? 0 : number(s.partBytes(i));
    }

    int frame(int source, int x) {
        Source s = at(source);
        if (s == null) {
            return -1;
        }
        if (x < 0 || x > 65535) {
            return -2;
        }
        frameSource = s;
        frame = new int[s.size + 4];
        frame[0] = x / 256;
        frame[1] = x % 256;
        System.arraycopy(s.output(x), 0, frame, 2, s.size);
        sign();
        return frame.length;
    }

    int frameByte(int i) {
        if (frame == null) {
            return -3;
        }
        return i < 0 || i >= frame.length ? -1 : frame[i];
    }

    int poke(int i, int mask) {
        if (frame == null) {
            return -3;
        }
        if (i < 0 || i >= frame.length) {
            return -1;
        }
        frame[i] ^= mask & 255;
        return frame[i];
    }

    int sign() {
        if (frame == null) {
            return -3;
        }
        int sum = sumOf(frame, 0, frame.length - 2);
        frame[frame.length - 2] = sum / 256;
        frame[frame.length - 1] = sum % 256;
        return sum;
    }

    int take() {
        if (frame == null) {
            return -3;
        }
        Source s = frameSource;
        int end = frame.length - 2;
        if (sumOf(frame, 0, end) != frame[end] * 256 + frame[end + 1]) {
            s.wrong++;
            return -5;
        }
        int answer = give(s, frame[0] * 256 + frame[1], Arrays.copyOfRange(frame, 2, end));
        if (answer == -6) {
            s.twice++;
        }
        if (answer == -7) {
            s.contrary++;
        }
        return answer;
    }

    private static int give(Source s, int x, int[] bytes) {
        for (Taken t : s.taken) {
            if (t.x == x) {
                return -6;
            }
        }
        if (s.taken.size() >= 64) {
            return -4;
        }
        Told rest = rest(steps(s.rows()), new Told(s.rowOf(x), bytes));
        if (rest.parts.isEmpty() && Arrays.stream(rest.bytes).anyMatch(b -> b != 0)) {
            return -7;
        }
        s.taken.add(new Taken(x, bytes));
        return s.rank();
    }

    int told(int source, int what) {
        Source s = at(source);
        if (s == null) {
            return -1;
        }
        switch (what) {
            case 0: return s.rank();
            case 1: return s.taken.size();
            case 2: return s.rank() == s.k + s.p ? 1 : 0;
            case 3: return countKnown(source);
            case 4: return countPeeled(s, 1);
            case 5: return countPeeled(s, 2);
            case 6: return countPeeled(s, 0);
            case 7: return s.wrong;
            case 8: return s.twice;
            case 9: return s.contrary;
            default: return -2;
        }
    }

    private int countKnown(int source) {
        int count = 0;
        for (int i = 0; i < 40; i++) {
            count += Math.max(0, isKnown(source, i));
        }
        return count;
    }

    private static int countPeeled(Source s, int kind) {
        return (int) Arrays.stream(peel(s)).filter(state -> state == kind).count();
    }

    int taken(int source, int k) {
        Source s = at(source);
        return s == null || k < 0 || k >= s.taken.size() ? -1 : s.taken.get(k).x;
    }

    int isKnown(int source, int i) {
        Source s = at(source);
        if (s == null || i < 0 || i >= s.k + s.p) {
            return -1;
        }
        return ownRest(s, i).parts.isEmpty() ? 1 : 0;
    }

    long known(int source, int i) {
        return isKnown(source, i) == 1 ? number(ownRest(at(source), i).bytes) : 0;
    }

    private static Told ownRest(Source s, int i) {
        BitSet own = new BitSet();
        own.set(i);
        return rest(steps(s.rows()), new Told(own, new int[s.size]));
    }

    int peeled(int source, int i) {
        Source s = at(source);
        return s == null || i < 0 || i >= s.k + s.p ? -1 : peel(s)[i];
    }

    private static int[] peel(Source s) {
        int[] states = new int[s.k + s.p];
        List<BitSet> left = new ArrayList<>();
        for (Told row : s.rows()) {
            left.add(row.parts);
        }
        while (true) {
            int next = -1;
            int state = 1;
            for (BitSet row : left) {
                if (next < 0 && row.cardinality() == 1) {
                    next = row.nextSetBit(0);
                }
            }
            if (next < 0) {
                state = 2;
                int[] counts = new int[states.length];
                for (BitSet row : left) {
                    if (row.cardinality() >= 2) {
                        row.stream().forEach(i -> counts[i]++);
                    }
                }
                int most = Arrays.stream(counts).max().getAsInt();
                for (int i = counts.length - 1; i >= 0 && most > 0; i--) {
                    next = counts[i] == most ? i : next;
                }
            }
            if (next < 0) {
                return states;
            }
            states[next] = state;
            for (BitSet row : left) {
                row.clear(next);
            }
        }
    }

    int image(int source) {
        Source s = at(source);
        if (s == null) {
            return -1;
        }
        List<Integer> bytes = new ArrayList<>(List.of(s.k, s.p, s.size));
        for (int shift = 24; shift >= 0; shift -= 8) {
            bytes.add((s.seed >> shift) & 255);
        }
        bytes.add(s.taken.size() / 256);
        bytes.add(s.taken.size() % 256);
        for (Taken t : s.taken) {
            bytes.add(t.x / 256);
            bytes.add(t.x % 256);
            for (int b : t.bytes) {
                bytes.add(b);
            }
        }
        int[] summed = bytes.stream().mapToInt(Integer::intValue).toArray();
        int sum = sumOf(summed, 0, summed.length);
        image = Arrays.copyOf(summed, summed.length + 2);
        image[summed.length] = sum / 256;
        image[summed.length + 1] = sum % 256;
        return image.length;
    }

    int imageByte(int i) {
        return i < 0 || i >= image.length ? -1 : image[i];
    }

    int setByte(int i, int b) {
        if (i < 0 || i >= image.length) {
            return -1;
        }
        int was = image[i];
        image[i] = b & 255;
        return was;
    }

    int cut(int n) {
        if (n < 0 || n > image.length) {
            return -2;
        }
        int was = image.length;
        image = Arrays.copyOf(image, n);
        return was;
    }

    int imageLength() {
        return image.length;
    }

    /** The SUM that THE IMAGE would need at its end. */
    int imageSum() {
        return sumOf(image, 0, image.length - 2);
    }

    int resume(int source) {
        Source s = at(source);
        if (s == null) {
            return -1;
        }
        int n = image.length;
        if (n < 11) {
            return -11;
        }
        long seed = number(Arrays.copyOfRange(image, 3, 7));
        if (image[0] != s.k || image[1] != s.p || image[2] != s.size
                || seed != (s.seed & 0xFFFFFFFFL)) {
            return -12;
        }
        int count = image[7] * 256 + image[8];
        if (n != 9 + count * (2 + s.size) + 2) {
            return -13;
        }
        if (imageSum() != image[n - 2] * 256 + image[n - 1]) {
            return -14;
        }
        s.taken.clear();
        for (int e = 0; e < count; e++) {
            int from = 9 + e * (2 + s.size);
            give(s, image[from] * 256 + image[from + 1],
                    Arrays.copyOfRange(image, from + 2, from + 2 + s.size));
        }
        return s.rank();
    }
}
