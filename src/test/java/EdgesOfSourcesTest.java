/** Promises 1 to 7: a test for each sentence with an edge. */
public final class EdgesOfSourcesTest {
    private static final int LOW = Setup.LOW;
    private static final int HIGH = Setup.HIGH;
    private static final int[] NO_SOURCES = {-1, 2, 3, 4, 5, LOW, HIGH};

    public static void main(String[] args) {
        noSources();
        noFrame();
        firstWeights();
        noSuchDegree();
        weightOutside();
        degreeRefusalsInOrder();
        countOfSymbols();
        countOfSums();
        sizes();
        totalOfZero();
        totalOfOne();
        roomForFour();
        sourceRefusalsInOrder();
        lowestBytes();
        noSuchSymbol();
        whatWasTakenStays();
        rowBits();
        noSuchRow();
        rowNumberOutside();
        rowRefusalsInOrder();
        sumBits();
        noSuchSum();
        partAsItIs();
        noSuchPart();
        Due.end();
    }

    private static FountainRows twoSources() {
        FountainRows rows = new FountainRows();
        rows.source(4, 2, 3, 77);
        rows.source(32, 8, 8, 77);
        return rows;
    }

    private static void noSources() {
        Due.sentence("Promise 1", "No SOURCES");
        FountainRows rows = new FountainRows();
        for (int s : new int[] {0, 1, 2, 3, 4, -1, LOW, HIGH}) {
            Due.due("symbol", rows.symbol(s, 0, 1), -1);
            Due.due("row", rows.row(s, 0), -1);
            Due.due("sumRow", rows.sumRow(s, 0), -1);
            Due.due("part", rows.part(s, 0), 0);
            Due.due("frame", rows.frame(s, 0), -1);
            Due.due("told", rows.told(s, 0), -1);
            Due.due("taken", rows.taken(s, 0), -1);
            Due.due("isKnown", rows.isKnown(s, 0), -1);
            Due.due("known", rows.known(s, 0), 0);
            Due.due("peeled", rows.peeled(s, 0), -1);
            Due.due("image", rows.image(s), -1);
            Due.due("resume", rows.resume(s), -1);
        }
        Due.due("the first to come", rows.source(1, 0, 1, 0), 0);
    }

    private static void noFrame() {
        Due.sentence("Promise 1", "no FRAME");
        FountainRows rows = new FountainRows();
        Due.due("frameByte", rows.frameByte(0), -3);
        Due.due("poke", rows.poke(0, 1), -3);
        Due.due("sign", rows.sign(), -3);
        Due.due("take", rows.take(), -3);
        rows.source(1, 0, 1, 0);
        Due.due("frameByte, with a source", rows.frameByte(0), -3);
        Due.due("poke, with a source", rows.poke(0, 1), -3);
        Due.due("sign, with a source", rows.sign(), -3);
        Due.due("take, with a source", rows.take(), -3);
    }

    private static void firstWeights() {
        Due.sentence("Promise 1", "THE TABLE has WEIGHTS 1, 50, 17, 8, 5, 3, 2, 2, 1, 1, 1, 9");
        int[] want = {1, 50, 17, 8, 5, 3, 2, 2, 1, 1, 1, 9};
        for (int object = 0; object < 2; object++) {
            FountainRows rows = new FountainRows();
            for (int d = 1; d <= 12; d++) {
                Due.due("degree " + d, rows.degree(d, 77), want[d - 1]);
            }
        }
    }

    private static void noSuchDegree() {
        Due.sentence("Promise 2", "-1 no such DEGREE");
        FountainRows rows = new FountainRows();
        for (int d : new int[] {0, 13, -1, -12, 14, LOW, HIGH}) {
            Due.due("degree " + d, rows.degree(d, 50), -1);
        }
        Due.due("the first", rows.degree(1, 1), 1);
        Due.due("the last", rows.degree(12, 9), 9);
    }

    private static void weightOutside() {
        Due.sentence("Promise 2", "what it was. ... -2");
        FountainRows rows = new FountainRows();
        for (int weight : new int[] {-1, 101, 256, LOW, HIGH}) {
            for (int d = 1; d <= 12; d++) {
                Due.due("weight " + weight + " of " + d, rows.degree(d, weight), -2);
            }
        }
        Due.due("as it was", rows.degree(2, 0), 50);
        Due.due("the least", rows.degree(2, 100), 0);
        Due.due("the greatest", rows.degree(2, 1), 100);
    }

    private static void degreeRefusalsInOrder() {
        Due.sentence("Promise 2", "-1 no such DEGREE, -2");
        FountainRows rows = new FountainRows();
        for (int d : new int[] {0, 13}) {
            Due.due("too small as well", rows.degree(d, -1), -1);
            Due.due("too large as well", rows.degree(d, 101), -1);
        }
    }

    private static void countOfSymbols() {
        Due.sentence("Promise 3", "-2 K is not 1 .. 32");
        FountainRows rows = new FountainRows();
        for (int k : new int[] {0, 33, -1, 64, 256 + 1, LOW, HIGH}) {
            Due.due("K " + k, rows.source(k, 0, 1, 0), -2);
        }
        Due.due("the least", rows.source(1, 0, 1, 0), 0);
        Due.due("the greatest", rows.source(32, 0, 1, 0), 1);
        Due.due("its last symbol", rows.symbol(1, 31, 1), 1);
        Due.due("behind", rows.symbol(1, 32, 1), -1);
    }

    private static void countOfSums() {
        Due.sentence("Promise 3", "P not 0 .. 8");
        FountainRows rows = new FountainRows();
        for (int p : new int[] {-1, 9, -8, 256, LOW, HIGH}) {
            Due.due("P " + p, rows.source(1, p, 1, 0), -2);
        }
        Due.due("the least", rows.source(1, 0, 1, 0), 0);
        Due.due("the greatest", rows.source(1, 8, 1, 0), 1);
        Due.due("its last sum", rows.sumRow(1, 7) >= 0 ? 1 : 0, 1);
        Due.due("behind", rows.sumRow(1, 8), -1);
    }

    private static void sizes() {
        Due.sentence("Promise 3", "SIZE not 1 .. 8");
        FountainRows rows = new FountainRows();
        for (int size : new int[] {0, 9, -1, 256 + 1, LOW, HIGH}) {
            Due.due("SIZE " + size, rows.source(1, 0, size, 0), -2);
        }
        Due.due("the least", rows.source(1, 0, 1, 0), 0);
        Due.due("its frame", rows.frame(0, 0), 5);
        Due.due("the greatest", rows.source(1, 0, 8, 0), 1);
        Due.due("its frame", rows.frame(1, 0), 12);
    }

    private static void totalOfZero() {
        Due.sentence("Promise 3", "-3 T is 0");
        FountainRows rows = new FountainRows();
        rows.source(9, 0, 1, 0);
        long before = rows.row(0, 20);
        Setup.onlyDegree(rows, 13);
        Due.due("T is 0", rows.source(1, 0, 1, 0), -3);
        Due.due("no second one", rows.row(1, 0), -1);
        Due.due("the first has its own", rows.row(0, 20), before);
    }

    private static void totalOfOne() {
        Due.sentence("Promise 3", "-3 T is 0");
        for (int d = 1; d <= 12; d++) {
            FountainRows rows = new FountainRows();
            Setup.onlyDegree(rows, 13);
            rows.degree(d, 1);
            Due.due("T is 1, by " + d, rows.source(1, 0, 1, 0), 0);
            rows.degree(d, 0);
            Due.due("and 0 again", rows.source(1, 0, 1, 0), -3);
        }
    }

    private static void roomForFour() {
        Due.sentence("Promise 3", "A SOURCE: its number. ... -4");
        FountainRows rows = new FountainRows();
        for (int s = 0; s < 4; s++) {
            Due.due("number", rows.source(32, 8, 8, s), s);
        }
        for (int n = 0; n < 3; n++) {
            Due.due("no room", rows.source(1, 0, 1, 0), -4);
        }
        Due.due("the last is as it was", rows.symbol(3, 31, 1), 1);
        Due.due("no fifth", rows.told(4, 0), -1);
    }

    private static void sourceRefusalsInOrder() {
        Due.sentence("Promise 3", "-2 K is not 1 .. 32, P not 0 .. 8, SIZE not 1 .. 8, -3 T is 0, -4");
        FountainRows rows = new FountainRows();
        for (int s = 0; s < 4; s++) {
            rows.source(1, 0, 1, 0);
        }
        Due.due("-4 alone", rows.source(1, 0, 1, 0), -4);
        Due.due("-2 before -4", rows.source(33, 0, 1, 0), -2);
        Setup.onlyDegree(rows, 13);
        Due.due("-3 before -4", rows.source(1, 0, 1, 0), -3);
        Due.due("-2 before both, K", rows.source(0, 0, 1, 0), -2);
        Due.due("-2 before both, P", rows.source(1, 9, 1, 0), -2);
        Due.due("-2 before both, SIZE", rows.source(1, 0, 9, 0), -2);
    }

    private static void lowestBytes() {
        Due.sentence("Promise 4", "the lowest SIZE bytes of v, the highest first");
        long[] values = {0, -1, Long.MIN_VALUE, Long.MAX_VALUE, 0xFEDCBA9876543210L, 256};
        for (int size = 1; size <= 8; size++) {
            FountainRows rows = new FountainRows();
            rows.source(1, 0, size, 0);
            for (long v : values) {
                Due.due("symbol", rows.symbol(0, 0, v), 1);
                Due.due(size + " of " + v, rows.part(0, 0), v << 64 - 8 * size >>> 64 - 8 * size);
                rows.frame(0, 0);
                for (int i = 0; i < size; i++) {
                    Due.due("byte " + i + " of " + size + " of " + v, rows.frameByte(2 + i),
                            v >> 8 * (size - 1 - i) & 255);
                }
            }
        }
    }

    private static void noSuchSymbol() {
        Due.sentence("Promise 4", "-1. (What was TAKEN stays as it is.)");
        FountainRows rows = twoSources();
        for (int i : new int[] {-1, 4, 5, 6, 31, LOW, HIGH}) {
            Due.due("symbol " + i, rows.symbol(0, i, 1), -1);
        }
        for (int i : new int[] {-1, 32, 39, 40, LOW, HIGH}) {
            Due.due("symbol " + i, rows.symbol(1, i, 1), -1);
        }
        for (int s : NO_SOURCES) {
            Due.due("source " + s, rows.symbol(s, 0, 1), -1);
        }
        for (int i = 0; i < 40; i++) {
            Due.due("0 still, " + i, rows.part(0, i) | rows.part(1, i), 0);
        }
        Due.due("the first", rows.symbol(0, 0, 1), 1);
        Due.due("the last", rows.symbol(0, 3, 1), 1);
        Due.due("the last of 32", rows.symbol(1, 31, 1), 1);
    }

    private static void whatWasTakenStays() {
        Due.sentence("Promise 4", "(What was TAKEN stays as it is.)");
        FountainRows rows = twoSources();
        rows.symbol(0, 0, 0x111111);
        Setup.send(rows, 0, 0);
        rows.symbol(0, 0, 0x222222);
        Due.due("the source's", rows.part(0, 0), 0x222222);
        Due.due("the receiver's", rows.known(0, 0), 0x111111);
        rows.image(0);
        Due.due("the image's", rows.imageByte(11), 0x11);
        Due.due("a new frame is twice", Setup.send(rows, 0, 0), -6);
        Due.due("the receiver's", rows.known(0, 0), 0x111111);
    }

    private static void rowBits() {
        Due.sentence("Promise 5", "bit i is PART i (39 at most)");
        FountainRows rows = new FountainRows();
        Setup.onlyDegree(rows, 1);
        rows.source(32, 8, 1, 3);
        rows.source(31, 8, 1, 3);
        Due.due("part 0", rows.row(0, 0), 1);
        Due.due("part 31", rows.row(0, 31), 1L << 31);
        for (int i : new int[] {0, 30, 31, 32, 38, 39}) {
            Due.due("part " + i, rows.row(0, Setup.numberOf(32, 8, 3, i)), 1L << i);
        }
        Due.due("part 38, the last", rows.row(1, Setup.numberOf(31, 8, 3, 38)), 1L << 38);
    }

    private static void noSuchRow() {
        Due.sentence("Promise 5", "-1, -2 x (both look like no ROWS)");
        FountainRows rows = twoSources();
        for (int s : NO_SOURCES) {
            Due.due("source " + s, rows.row(s, 0), -1);
            Due.due("source " + s, rows.row(s, 65535), -1);
        }
    }

    private static void rowNumberOutside() {
        Due.sentence("Promise 5", "-2 x");
        FountainRows rows = twoSources();
        for (int x : new int[] {-1, 65536, 131072, -65536, LOW, HIGH}) {
            Due.due("x " + x, rows.row(0, x), -2);
            Due.due("x " + x, rows.row(1, x), -2);
        }
        Due.due("the least", rows.row(0, 0), 1);
        Due.due("the greatest", rows.row(0, 65535), 18);
    }

    private static void rowRefusalsInOrder() {
        Due.sentence("Promise 5", "-1, -2 x");
        FountainRows rows = twoSources();
        for (int s : NO_SOURCES) {
            Due.due("too small as well", rows.row(s, -1), -1);
            Due.due("too large as well", rows.row(s, 65536), -1);
        }
    }

    private static void sumBits() {
        Due.sentence("Promise 6", "Of PART K + j: the SYMBOLS, as bits");
        FountainRows rows = new FountainRows();
        rows.source(32, 8, 1, Setup.HIGH);
        rows.source(1, 1, 1, 200);
        Due.due("with symbol 31", rows.sumRow(0, 4), 4273529306L);
        Due.due("without", rows.sumRow(0, 3), 141935863L);
        Due.due("none", rows.sumRow(1, 0), 0);
        for (int j = 0; j < 8; j++) {
            Due.due("no part of its own", rows.sumRow(0, j) >> 32, 0);
        }
    }

    private static void noSuchSum() {
        Due.sentence("Promise 6", "the SYMBOLS, as bits. -1.");
        FountainRows rows = twoSources();
        for (int j : new int[] {-1, 2, 4, 5, 7, 8, LOW, HIGH}) {
            Due.due("sum " + j, rows.sumRow(0, j), -1);
        }
        for (int j : new int[] {-1, 8, 32, 39, LOW, HIGH}) {
            Due.due("sum " + j, rows.sumRow(1, j), -1);
        }
        for (int s : NO_SOURCES) {
            Due.due("source " + s, rows.sumRow(s, 0), -1);
        }
        Due.due("the last", rows.sumRow(0, 1), 3);
        rows.source(1, 0, 1, 0);
        Due.due("without sums", rows.sumRow(2, 0), -1);
    }

    private static void partAsItIs() {
        Due.sentence("Promise 7", "A PART as it is in the SOURCE, its bytes as a number, the first one the highest");
        FountainRows rows = new FountainRows();
        rows.source(4, 2, 8, 77);
        rows.symbol(0, 0, Long.MIN_VALUE);
        Due.due("below 0", rows.part(0, 0), Long.MIN_VALUE);
        Due.due("its sum too", rows.part(0, 4), Long.MIN_VALUE);
        rows.symbol(0, 3, -1);
        Due.due("the sum of both", rows.part(0, 4), Long.MAX_VALUE);
        rows.symbol(0, 3, Long.MIN_VALUE);
        Due.due("the sum of two alike", rows.part(0, 4), 0);
        rows.source(1, 0, 1, 0);
        rows.symbol(1, 0, -1);
        Due.due("a byte is never below 0", rows.part(1, 0), 255);
        rows.frame(0, 0);
        rows.poke(2, 255);
        Due.due("a frame altered does not alter it", rows.part(0, 0), Long.MIN_VALUE);
    }

    private static void noSuchPart() {
        Due.sentence("Promise 7", "0 where there is none");
        FountainRows rows = twoSources();
        for (int i = 0; i < 32; i++) {
            rows.symbol(0, i, -1);
            rows.symbol(1, i, 1L << i);
        }
        for (int i : new int[] {-1, 6, 7, 32, 40, LOW, HIGH}) {
            Due.due("part " + i, rows.part(0, i), 0);
        }
        for (int i : new int[] {-1, 40, 41, 64, LOW, HIGH}) {
            Due.due("part " + i, rows.part(1, i), 0);
        }
        for (int s : NO_SOURCES) {
            Due.due("source " + s, rows.part(s, 0), 0);
        }
        Due.due("the last", rows.part(1, 39), rows.sumRow(1, 7));
    }
}
