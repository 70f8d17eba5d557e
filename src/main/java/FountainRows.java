/**
 * Symbols without end for rows of bytes, and what a receiver knows from any of them.
 *
 * <p>Bytes of one part are held as one long, the first byte the highest; sets of parts are held as
 * bits of one long. No call makes an object but source(): everything else is made once and used
 * again.
 */
public final class FountainRows {
    private static final int NO_SUCH = -1;
    private static final int OUT_OF_BOUNDS = -2;
    private static final int NOT_IN_THIS_STATE = -3;
    private static final int NO_ROOM = -4;
    private static final int WRONG = -5;
    private static final int TWICE = -6;
    private static final int CONTRARY = -7;
    private static final int BEFORE_FAULTS = -10;

    private static final int FAULT_SHORT = 1;
    private static final int FAULT_OTHER_SOURCE = 2;
    private static final int FAULT_LENGTH = 3;
    private static final int FAULT_SUM = 4;

    private static final int MOST_SOURCES = 4;
    private static final int MOST_SYMBOLS = 32;
    private static final int MOST_SUMS = 8;
    private static final int MOST_PARTS = MOST_SYMBOLS + MOST_SUMS;
    private static final int MOST_SIZE = 8;
    private static final int MOST_TAKEN = 64;
    private static final int MOST_WEIGHT = 100;
    private static final int DEGREES = 12;
    private static final int LAST_NUMBER = 65535;

    private static final int NUMBER_BYTES = 2;
    private static final int SEED_BYTES = 4;
    private static final int SUM_BYTES = 2;
    private static final int SEED_AT = 3;
    private static final int COUNT_AT = SEED_AT + SEED_BYTES;
    private static final int HEAD_BYTES = COUNT_AT + 2;
    private static final int MOST_FRAME_BYTES = NUMBER_BYTES + MOST_SIZE + SUM_BYTES;
    private static final int MOST_IMAGE_BYTES =
            HEAD_BYTES + MOST_TAKEN * (NUMBER_BYTES + MOST_SIZE) + SUM_BYTES;

    private static final int SPREAD = 40503;
    private static final int[] FIRST_WEIGHTS = {1, 50, 17, 8, 5, 3, 2, 2, 1, 1, 1, 9};

    private final int[] weights;
    private final Source[] sources;
    private final Receiver[] receivers;
    private int sourceCount;
    private final Bytes frameBytes;
    private int frameSource;
    private final Bytes imageBytes;

    public FountainRows() {
        weights = new int[DEGREES];
        System.arraycopy(FIRST_WEIGHTS, 0, weights, 0, DEGREES);
        sources = new Source[MOST_SOURCES];
        receivers = new Receiver[MOST_SOURCES];
        sourceCount = 0;
        frameBytes = new Bytes(MOST_FRAME_BYTES);
        frameSource = -1;
        imageBytes = new Bytes(MOST_IMAGE_BYTES);
    }

    public int degree(int d, int weight) {
        if (d < 1 || d > DEGREES) {
            return NO_SUCH;
        }
        if (weight < 0 || weight > MOST_WEIGHT) {
            return OUT_OF_BOUNDS;
        }
        int before = weights[d - 1];
        weights[d - 1] = weight;
        return before;
    }

    public int source(int k, int p, int size, int seed) {
        if (k < 1 || k > MOST_SYMBOLS || p < 0 || p > MOST_SUMS || size < 1 || size > MOST_SIZE) {
            return OUT_OF_BOUNDS;
        }
        if (totalOf(weights) == 0) {
            return NOT_IN_THIS_STATE;
        }
        if (sourceCount >= MOST_SOURCES) {
            return NO_ROOM;
        }
        Source made = new Source(k, p, size, seed, weights);
        sources[sourceCount] = made;
        receivers[sourceCount] = new Receiver(made);
        sourceCount++;
        return sourceCount - 1;
    }

    public int symbol(int source, int i, long v) {
        Source from = sourceAt(source);
        if (from == null || !from.hasSymbol(i)) {
            return NO_SUCH;
        }
        from.setSymbol(i, v);
        return 1;
    }

    public long row(int source, int x) {
        Source from = sourceAt(source);
        if (from == null) {
            return NO_SUCH;
        }
        return isNumber(x) ? from.rowOf(x) : OUT_OF_BOUNDS;
    }

    public long sumRow(int source, int j) {
        Source from = sourceAt(source);
        return from != null && from.hasSum(j) ? from.symbolsOfSum(j) : NO_SUCH;
    }

    public long part(int source, int i) {
        Source from = sourceAt(source);
        return from != null && from.hasPart(i) ? from.partValue(i) : 0L;
    }

    // ---- frames

    public int frame(int source, int x) {
        Source from = sourceAt(source);
        if (from == null) {
            return NO_SUCH;
        }
        if (!isNumber(x)) {
            return OUT_OF_BOUNDS;
        }
        frameSource = source;
        frameBytes.shorten(0);
        frameBytes.append(x, NUMBER_BYTES);
        frameBytes.append(from.outputOf(x), from.size);
        frameBytes.append(frameBytes.sumOfFirst(frameBytes.length), SUM_BYTES);
        return frameBytes.length;
    }

    public int frameByte(int i) {
        if (frameSource < 0) {
            return NOT_IN_THIS_STATE;
        }
        return frameBytes.has(i) ? frameBytes.at(i) : NO_SUCH;
    }

    public int poke(int i, int mask) {
        if (frameSource < 0) {
            return NOT_IN_THIS_STATE;
        }
        if (!frameBytes.has(i)) {
            return NO_SUCH;
        }
        frameBytes.put(i, frameBytes.at(i) ^ mask);
        return frameBytes.at(i);
    }

    public int sign() {
        if (frameSource < 0) {
            return NOT_IN_THIS_STATE;
        }
        int summed = frameBytes.length - SUM_BYTES;
        int sum = frameBytes.sumOfFirst(summed);
        frameBytes.shorten(summed);
        frameBytes.append(sum, SUM_BYTES);
        return sum;
    }

    public int take() {
        Receiver to = receiverAt(frameSource);
        return to == null ? NOT_IN_THIS_STATE : to.takeFrame(frameBytes);
    }

    // ---- receivers

    public int told(int source, int what) {
        Receiver of = receiverAt(source);
        return of == null ? NO_SUCH : of.tell(what);
    }

    public int taken(int source, int k) {
        Receiver of = receiverAt(source);
        return of != null && of.hasTaken(k) ? of.numbers[k] : NO_SUCH;
    }

    public int isKnown(int source, int i) {
        Receiver of = receiverAt(source);
        if (of == null || !of.origin.hasPart(i)) {
            return NO_SUCH;
        }
        return of.span.holdsAlone(i) ? 1 : 0;
    }

    public long known(int source, int i) {
        Receiver of = receiverAt(source);
        return of != null && of.span.holdsAlone(i) ? of.span.values[i] : 0L;
    }

    public int peeled(int source, int i) {
        Receiver of = receiverAt(source);
        return of != null && of.origin.hasPart(i) ? of.peelingOf(i) : NO_SUCH;
    }

    // ---- images

    public int image(int source) {
        Receiver of = receiverAt(source);
        if (of == null) {
            return NO_SUCH;
        }
        of.writeTo(imageBytes);
        return imageBytes.length;
    }

    public int imageByte(int i) {
        return imageBytes.has(i) ? imageBytes.at(i) : NO_SUCH;
    }

    public int setByte(int i, int b) {
        if (!imageBytes.has(i)) {
            return NO_SUCH;
        }
        int before = imageBytes.at(i);
        imageBytes.put(i, b);
        return before;
    }

    public int cut(int n) {
        int before = imageBytes.length;
        if (n < 0 || n > before) {
            return OUT_OF_BOUNDS;
        }
        imageBytes.shorten(n);
        return before;
    }

    public int resume(int source) {
        Receiver of = receiverAt(source);
        if (of == null) {
            return NO_SUCH;
        }
        int fault = of.faultOf(imageBytes);
        if (fault != 0) {
            return BEFORE_FAULTS - fault;
        }
        of.readFrom(imageBytes);
        return of.span.rank;
    }

    private Source sourceAt(int number) {
        return number >= 0 && number < sourceCount ? sources[number] : null;
    }

    private Receiver receiverAt(int number) {
        return number >= 0 && number < sourceCount ? receivers[number] : null;
    }

    private static boolean isNumber(int x) {
        return x >= 0 && x <= LAST_NUMBER;
    }

    private static int totalOf(int[] weights) {
        int total = 0;
        for (int weight : weights) {
            total += weight;
        }
        return total;
    }

    private static boolean hasBit(long bits, int i) {
        return ((bits >>> i) & 1L) != 0L;
    }

    private static int nextState(int z) {
        return z * 1664525 + 1013904223;
    }

    private static int drawnModulo(int z, int divisor) {
        return divisor > 0 ? (z >>> 1) % divisor : 0;
    }

    /** A row of bytes (each 0 to 255) that can be filled anew. */
    private static final class Bytes {
        private final int[] cells;
        private int length;

        Bytes(int most) {
            cells = new int[Math.max(0, most)];
            length = 0;
        }

        boolean has(int i) {
            return i >= 0 && i < length;
        }

        int at(int i) {
            return has(i) ? cells[i] : 0;
        }

        void put(int i, int b) {
            if (has(i)) {
                cells[i] = b & 255;
            }
        }

        void shorten(int n) {
            if (n >= 0 && n < length) {
                length = n;
            }
        }

        void append(long number, int count) {
            for (int left = count - 1; left >= 0 && length < cells.length; left--) {
                length++;
                put(length - 1, (int) (number >>> (8 * left)));
            }
        }

        long numberAt(int from, int count) {
            long number = 0L;
            for (int i = 0; i < count; i++) {
                number = (number << 8) | at(from + i);
            }
            return number;
        }

        int sumOfFirst(int n) {
            int sum = 65535;
            for (int i = 0; i < n; i++) {
                sum ^= at(i) << 8;
                for (int step = 0; step < 8; step++) {
                    sum <<= 1;
                    if (sum > 65535) {
                        sum = (sum ^ 4129) & 65535;
                    }
                }
            }
            return sum;
        }

        boolean endsWithItsSum() {
            int summed = length - SUM_BYTES;
            return summed >= 0 && numberAt(summed, SUM_BYTES) == sumOfFirst(summed);
        }
    }

    /** What a sender has: the symbols, and what tells the rows. */
    private static final class Source {
        private final int symbolCount;
        private final int sumCount;
        private final int partCount;
        private final int size;
        private final int seed;
        private final int[] ownWeights;
        private final int totalWeight;
        private final long[] sumSymbols;
        private final long[] symbols;

        Source(int k, int p, int size, int seed, int[] weights) {
            symbolCount = k;
            sumCount = p;
            partCount = k + p;
            this.size = size;
            this.seed = seed;
            ownWeights = new int[DEGREES];
            System.arraycopy(weights, 0, ownWeights, 0, DEGREES);
            totalWeight = totalOf(ownWeights);
            symbols = new long[MOST_SYMBOLS];
            sumSymbols = new long[MOST_SUMS];
            for (int j = 0; j < p && j < MOST_SUMS; j++) {
                sumSymbols[j] = drawSymbols(seed + SPREAD * (j + 1), k);
            }
        }

        private static long drawSymbols(int start, int symbolCount) {
            int z = start;
            long bits = 0L;
            for (int i = 0; i < symbolCount; i++) {
                z = nextState(z);
                if (hasBit(z >>> 1, 30)) {
                    bits |= 1L << i;
                }
            }
            return bits;
        }

        boolean hasSymbol(int i) {
            return i >= 0 && i < symbolCount;
        }

        boolean hasSum(int j) {
            return j >= 0 && j < sumCount;
        }

        boolean hasPart(int i) {
            return i >= 0 && i < partCount;
        }

        void setSymbol(int i, long v) {
            if (hasSymbol(i)) {
                // For SIZE 8 the mask would be 0: a long moved left by 64 stays as it is.
                symbols[i] = size < MOST_SIZE ? v & ((1L << (8 * size)) - 1L) : v;
            }
        }

        long symbolsOfSum(int j) {
            return hasSum(j) ? sumSymbols[j] : 0L;
        }

        long partValue(int i) {
            return hasSymbol(i) ? symbols[i] : valueOfSymbols(symbolsOfSum(i - symbolCount));
        }

        private long valueOfSymbols(long bits) {
            long value = 0L;
            for (int i = 0; i < MOST_SYMBOLS; i++) {
                if (hasBit(bits, i)) {
                    value ^= symbols[i];
                }
            }
            return value;
        }

        long outputOf(int x) {
            long bits = rowOf(x);
            long value = 0L;
            for (int i = 0; i < partCount; i++) {
                if (hasBit(bits, i)) {
                    value ^= partValue(i);
                }
            }
            return value;
        }

        long rowOf(int x) {
            if (hasSymbol(x)) {
                return 1L << x;
            }
            int z = nextState(seed ^ (x * SPREAD));
            int wanted = Math.min(degreeFor(drawnModulo(z, totalWeight)), partCount);
            long bits = 0L;
            for (int n = 0; n < wanted; n++) {
                z = nextState(z);
                bits |= 1L << firstOutside(bits, drawnModulo(z, partCount));
            }
            return bits;
        }

        private int degreeFor(int t) {
            int sum = 0;
            for (int d = 1; d <= DEGREES; d++) {
                sum += ownWeights[d - 1];
                if (sum > t) {
                    return d;
                }
            }
            return DEGREES;
        }

        private int firstOutside(long bits, int start) {
            int i = start;
            for (int step = 0; step < partCount && hasBit(bits, i); step++) {
                i = i + 1 < partCount ? i + 1 : 0;
            }
            return i;
        }
    }

    /**
     * All that follows from rows. rows[i] is 0, or has part i as its own: no other of them has it.
     * So a part follows alone just where its own row has nothing else.
     */
    private static final class Span {
        private final long[] rows = new long[MOST_PARTS];
        private final long[] values = new long[MOST_PARTS];
        private int rank;
        private long restRow;
        private long restValue;

        void clear() {
            for (int i = 0; i < MOST_PARTS; i++) {
                rows[i] = 0L;
                values[i] = 0L;
            }
            rank = 0;
        }

        boolean contradicts(long row, long value) {
            reduce(row, value);
            return restRow == 0L && restValue != 0L;
        }

        void add(long row, long value) {
            reduce(row, value);
            if (restRow == 0L) {
                return;
            }
            int own = lowestOfRest();
            for (int i = 0; i < MOST_PARTS; i++) {
                if (hasBit(rows[i], own)) {
                    rows[i] ^= restRow;
                    values[i] ^= restValue;
                }
            }
            rows[own] = restRow;
            values[own] = restValue;
            rank++;
        }

        boolean holdsAlone(int i) {
            return i >= 0 && i < MOST_PARTS && rows[i] == (1L << i);
        }

        int countAlone() {
            int count = 0;
            for (int i = 0; i < MOST_PARTS; i++) {
                if (holdsAlone(i)) {
                    count++;
                }
            }
            return count;
        }

        private void reduce(long row, long value) {
            restRow = row;
            restValue = value;
            for (int i = 0; i < MOST_PARTS; i++) {
                if (rows[i] != 0L && hasBit(row, i)) {
                    restRow ^= rows[i];
                    restValue ^= values[i];
                }
            }
        }

        private int lowestOfRest() {
            int i = 0;
            while (i < MOST_PARTS - 1 && !hasBit(restRow, i)) {
                i++;
            }
            return i;
        }
    }

    /** What peeling alone finds in rows; the three sets are parts as bits. */
    private static final class Peeling {
        private long open;
        private long found;
        private long inactive;

        void run(long[] rows, int rowCount, int partCount) {
            open = (1L << partCount) - 1L;
            found = 0L;
            inactive = 0L;
            for (int step = 0; step < partCount; step++) {
                long next = onlyOpenPart(rows, rowCount);
                if (next != 0L) {
                    found |= next;
                } else {
                    next = mostSharedPart(rows, rowCount, partCount);
                    inactive |= next;
                }
                if (next == 0L) {
                    return;
                }
                open &= ~next;
            }
        }

        private long onlyOpenPart(long[] rows, int rowCount) {
            for (int r = 0; r < rowCount && r < rows.length; r++) {
                if (Long.bitCount(rows[r] & open) == 1) {
                    return rows[r] & open;
                }
            }
            return 0L;
        }

        // Asked only when no row has just one open part: each row that has an open one has two.
        private long mostSharedPart(long[] rows, int rowCount, int partCount) {
            long best = 0L;
            int most = 0;
            for (int i = 0; i < partCount; i++) {
                int count = hasBit(open, i) ? countRowsWith(i, rows, rowCount) : 0;
                if (count > most) {
                    most = count;
                    best = 1L << i;
                }
            }
            return best;
        }

        private static int countRowsWith(int part, long[] rows, int rowCount) {
            int count = 0;
            for (int r = 0; r < rowCount && r < rows.length; r++) {
                if (hasBit(rows[r], part)) {
                    count++;
                }
            }
            return count;
        }
    }

    /** What one source's receiver has taken, and what follows from it. */
    private static final class Receiver {
        private final Source origin;
        private final Span span;
        private final Peeling peeling;
        private boolean peelingIsOld;
        private final int[] numbers;
        private final long[] outputs;
        private final long[] rows;
        private int takenCount;
        private int wrongCount;
        private int twiceCount;
        private int contraryCount;

        Receiver(Source origin) {
            this.origin = origin;
            span = new Span();
            peeling = new Peeling();
            numbers = new int[MOST_TAKEN];
            outputs = new long[MOST_TAKEN];
            rows = new long[MOST_SUMS + MOST_TAKEN];
            startAnew();
        }

        private void startAnew() {
            takenCount = 0;
            peelingIsOld = true;
            span.clear();
            for (int j = 0; j < origin.sumCount && j < MOST_SUMS; j++) {
                rows[j] = origin.symbolsOfSum(j) | (1L << (origin.symbolCount + j));
                span.add(rows[j], 0L);
            }
        }

        int takeFrame(Bytes bytes) {
            if (!bytes.endsWithItsSum()) {
                wrongCount++;
                return WRONG;
            }
            int answer = accept(bytes, 0);
            if (answer == TWICE) {
                twiceCount++;
            } else if (answer == CONTRARY) {
                contraryCount++;
            }
            return answer;
        }

        private int accept(Bytes bytes, int at) {
            int x = (int) bytes.numberAt(at, NUMBER_BYTES);
            long output = bytes.numberAt(at + NUMBER_BYTES, origin.size);
            if (hasTakenNumber(x)) {
                return TWICE;
            }
            if (takenCount >= MOST_TAKEN) {
                return NO_ROOM;
            }
            long row = origin.rowOf(x);
            if (span.contradicts(row, output)) {
                return CONTRARY;
            }
            span.add(row, output);
            numbers[takenCount] = x;
            outputs[takenCount] = output;
            rows[origin.sumCount + takenCount] = row;
            takenCount++;
            peelingIsOld = true;
            return span.rank;
        }

        boolean hasTaken(int k) {
            return k >= 0 && k < takenCount;
        }

        private boolean hasTakenNumber(int x) {
            for (int k = 0; k < takenCount; k++) {
                if (numbers[k] == x) {
                    return true;
                }
            }
            return false;
        }

        int tell(int what) {
            switch (what) {
                case 0: return span.rank;
                case 1: return takenCount;
                case 2: return span.rank == origin.partCount ? 1 : 0;
                case 3: return span.countAlone();
                case 4: return Long.bitCount(freshPeeling().found);
                case 5: return Long.bitCount(freshPeeling().inactive);
                case 6: return Long.bitCount(freshPeeling().open);
                case 7: return wrongCount;
                case 8: return twiceCount;
                case 9: return contraryCount;
                default: return OUT_OF_BOUNDS;
            }
        }

        int peelingOf(int i) {
            Peeling fresh = freshPeeling();
            if (hasBit(fresh.found, i)) {
                return 1;
            }
            return hasBit(fresh.inactive, i) ? 2 : 0;
        }

        // Kept until a row comes, as callers ask part by part.
        private Peeling freshPeeling() {
            if (peelingIsOld) {
                peeling.run(rows, origin.sumCount + takenCount, origin.partCount);
                peelingIsOld = false;
            }
            return peeling;
        }

        void writeTo(Bytes image) {
            image.shorten(0);
            image.append(origin.symbolCount, 1);
            image.append(origin.sumCount, 1);
            image.append(origin.size, 1);
            image.append(origin.seed, SEED_BYTES);
            image.append(takenCount, 2);
            for (int k = 0; k < takenCount; k++) {
                image.append(numbers[k], NUMBER_BYTES);
                image.append(outputs[k], origin.size);
            }
            image.append(image.sumOfFirst(image.length), SUM_BYTES);
        }

        int faultOf(Bytes image) {
            if (image.length < HEAD_BYTES + SUM_BYTES) {
                return FAULT_SHORT;
            }
            if (image.at(0) != origin.symbolCount || image.at(1) != origin.sumCount
                    || image.at(2) != origin.size
                    || (int) image.numberAt(SEED_AT, SEED_BYTES) != origin.seed) {
                return FAULT_OTHER_SOURCE;
            }
            if (image.length != HEAD_BYTES + countIn(image) * entryBytes() + SUM_BYTES) {
                return FAULT_LENGTH;
            }
            return image.endsWithItsSum() ? 0 : FAULT_SUM;
        }

        void readFrom(Bytes image) {
            startAnew();
            int count = countIn(image);
            for (int n = 0; n < count; n++) {
                accept(image, HEAD_BYTES + n * entryBytes());
            }
        }

        private static int countIn(Bytes image) {
            return (int) image.numberAt(COUNT_AT, 2);
        }

        private int entryBytes() {
            return NUMBER_BYTES + origin.size;
        }
    }
}
