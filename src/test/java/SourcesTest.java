/** Promises 1 to 7: a new object, the table, sources, symbols, rows, parts. */
public final class SourcesTest {
    private static final int LOW = Integer.MIN_VALUE;
    private static final int HIGH = Integer.MAX_VALUE;

    public static void main(String[] args) {
        newObject();
        degrees();
        sourceBounds();
        sourceRoom();
        symbols();
        rowsByDegree();
        rowsBelowK();
        rowsKeepTheirTable();
        rowNumbers();
        sums();
        parts();
        Due.end();
    }

    private static void newObject() {
        FountainRows rows = new FountainRows();
        for (int s : new int[] {0, 1, -1, 4, LOW, HIGH}) {
            Due.due("1: symbol", rows.symbol(s, 0, 1), -1);
            Due.due("1: row", rows.row(s, 0), -1);
            Due.due("1: sumRow", rows.sumRow(s, 0), -1);
            Due.due("1: part", rows.part(s, 0), 0);
            Due.due("1: frame", rows.frame(s, 0), -1);
            Due.due("1: told", rows.told(s, 0), -1);
            Due.due("1: taken", rows.taken(s, 0), -1);
            Due.due("1: isKnown", rows.isKnown(s, 0), -1);
            Due.due("1: known", rows.known(s, 0), 0);
            Due.due("1: peeled", rows.peeled(s, 0), -1);
            Due.due("1: image", rows.image(s), -1);
            Due.due("1: resume", rows.resume(s), -1);
        }
        Due.due("1: frameByte", rows.frameByte(0), -3);
        Due.due("1: poke", rows.poke(0, 1), -3);
        Due.due("1: sign", rows.sign(), -3);
        Due.due("1: take", rows.take(), -3);
        Due.due("1: imageByte", rows.imageByte(0), -1);
        Due.due("1: setByte", rows.setByte(0, 0), -1);
        int[] weights = {1, 50, 17, 8, 5, 3, 2, 2, 1, 1, 1, 9};
        for (int d = 1; d <= 12; d++) {
            Due.due("1: weight of " + d, rows.degree(d, 7), weights[d - 1]);
        }
    }

    private static void degrees() {
        FountainRows rows = new FountainRows();
        for (int d : new int[] {0, 13, -1, LOW, HIGH}) {
            Due.due("2: degree " + d, rows.degree(d, 1), -1);
            Due.due("2: degree and weight", rows.degree(d, 101), -1);
        }
        for (int weight : new int[] {-1, 101, LOW, HIGH}) {
            Due.due("2: weight " + weight, rows.degree(1, weight), -2);
            Due.due("2: weight " + weight, rows.degree(12, weight), -2);
        }
        Due.due("2: unchanged, to 100", rows.degree(1, 100), 1);
        Due.due("2: to 0", rows.degree(1, 0), 100);
        Due.due("2: was 0", rows.degree(1, 3), 0);
        Due.due("2: unchanged 12", rows.degree(12, 9), 9);
        FountainRows other = new FountainRows();
        Due.due("2: another object's", other.degree(1, 1), 1);
    }

    private static void sourceBounds() {
        FountainRows rows = new FountainRows();
        for (int k : new int[] {0, 33, -1, LOW, HIGH}) {
            Due.due("3: k " + k, rows.source(k, 0, 1, 0), -2);
        }
        for (int p : new int[] {-1, 9, LOW, HIGH}) {
            Due.due("3: p " + p, rows.source(1, p, 1, 0), -2);
        }
        for (int size : new int[] {0, 9, -1, LOW, HIGH}) {
            Due.due("3: size " + size, rows.source(1, 0, size, 0), -2);
        }
        Due.due("3: none came", rows.told(0, 0), -1);
        Due.due("3: least", rows.source(1, 0, 1, LOW), 0);
        Due.due("3: most", rows.source(32, 8, 8, HIGH), 1);
        Due.due("3: part 39", rows.isKnown(1, 39), 0);
        Due.due("3: part 40", rows.isKnown(1, 40), -1);
        for (int i = 0; i < 40; i++) {
            Due.due("3: 0 at first", rows.part(1, i), 0);
        }
    }

    private static void sourceRoom() {
        FountainRows rows = new FountainRows();
        Setup.onlyDegree(rows, 13);
        Due.due("3: T is 0", rows.source(1, 0, 1, 0), -3);
        Due.due("3: -2 before -3", rows.source(33, 0, 1, 0), -2);
        rows.degree(12, 1);
        for (int s = 0; s < 4; s++) {
            Due.due("3: number", rows.source(1 + s, s, 1 + s, s), s);
        }
        Due.due("3: no room", rows.source(1, 0, 1, 0), -4);
        Due.due("3: -2 before -4", rows.source(1, 0, 0, 0), -2);
        rows.degree(12, 0);
        Due.due("3: -3 before -4", rows.source(1, 0, 1, 0), -3);
        Due.due("3: source 4", rows.row(4, 0), -1);
        Due.due("3: source 3", rows.row(3, 0), 1);
    }

    private static void symbols() {
        FountainRows rows = new FountainRows();
        long v = 0xFEDCBA9876543210L;
        for (int size = 1; size <= 8; size++) {
            FountainRows one = new FountainRows();
            one.source(2, 0, size, 5);
            Due.due("4: symbol", one.symbol(0, 1, v), 1);
            Due.due("4: size " + size, one.part(0, 1), size == 8 ? v : v & ((1L << 8 * size) - 1));
            one.frame(0, 1);
            Due.due("4: highest first", one.frameByte(2), (v >> 8 * (size - 1)) & 255);
            Due.due("4: lowest last", one.frameByte(1 + size), 0x10);
        }
        rows.source(4, 2, 2, 77);
        for (int i : new int[] {-1, 4, 5, 6, LOW, HIGH}) {
            Due.due("4: symbol " + i, rows.symbol(0, i, 1), -1);
        }
        Due.due("4: source 1", rows.symbol(1, 0, 1), -1);
        rows.symbol(0, 3, 9);
        rows.symbol(0, 3, 300);
        Due.due("4: the later", rows.part(0, 3), 300);
        Due.due("4: others stay", rows.part(0, 2), 0);
        Setup.send(rows, 0, 3);
        rows.symbol(0, 3, 1);
        Due.due("4: what was taken stays", rows.known(0, 3), 300);
        Due.due("4: the frame stays", rows.frameByte(2), 1);
    }

    private static void rowsByDegree() {
        for (int d = 1; d <= 12; d++) {
            FountainRows rows = new FountainRows();
            Setup.onlyDegree(rows, d);
            rows.source(7, 2, 1, 1234 + d);
            rows.source(32, 8, 1, -d);
            long seen = 0;
            for (int x = 32; x < 150; x++) {
                long row = rows.row(0, x);
                Due.due("5: degree " + d, Long.bitCount(row), Math.min(d, 9));
                Due.due("5: parts alone", row >> 9, 0);
                Due.due("5: degree " + d, Long.bitCount(rows.row(1, x)), d);
                seen |= rows.row(1, x);
            }
            Due.due("5: every part comes", seen, (1L << 40) - 1);
        }
    }

    private static void rowsBelowK() {
        FountainRows rows = new FountainRows();
        rows.source(32, 8, 1, 99);
        for (int x = 0; x < 32; x++) {
            Due.due("5: row " + x, rows.row(0, x), 1L << x);
        }
        Due.due("5: x -1", rows.row(0, -1), -2);
        Due.due("5: x 65536", rows.row(0, 65536), -2);
        Due.due("5: x low", rows.row(0, LOW), -2);
        Due.due("5: x high", rows.row(0, HIGH), -2);
        Due.due("5: -1 before -2", rows.row(1, -1), -1);
    }

    private static void rowsKeepTheirTable() {
        FountainRows rows = new FountainRows();
        Setup.onlyDegree(rows, 3);
        rows.source(9, 0, 1, 4);
        long before = rows.row(0, 400);
        Setup.onlyDegree(rows, 5);
        Due.due("5: the table as it was", rows.row(0, 400), before);
        rows.source(9, 0, 1, 4);
        Due.due("5: the table as it is", Long.bitCount(rows.row(1, 400)), 5);
    }

    // Worked out outside of Java from the words of part 1.
    private static void rowNumbers() {
        FountainRows rows = new FountainRows();
        rows.source(4, 2, 3, 77);
        rows.source(8, 3, 8, -5);
        rows.source(32, 8, 1, 0x7FFFFFFF);
        Due.due("5: row of 4", rows.row(0, 4), 63L);
        Due.due("5: row of 5", rows.row(0, 5), 18L);
        Due.due("5: row of 100", rows.row(0, 100), 14L);
        Due.due("5: row of 1000", rows.row(0, 1000), 39L);
        Due.due("5: row of 53021", rows.row(0, 53021), 33L);
        Due.due("5: row of 65535", rows.row(0, 65535), 18L);
        Due.due("5: row of 8", rows.row(1, 8), 136L);
        Due.due("5: row of 9", rows.row(1, 9), 188L);
        Due.due("5: row of 100", rows.row(1, 100), 1280L);
        Due.due("5: row of 1000", rows.row(1, 1000), 784L);
        Due.due("5: row of 53021", rows.row(1, 53021), 520L);
        Due.due("5: row of 65535", rows.row(1, 65535), 48L);
        Due.due("5: row of 32", rows.row(2, 32), 35127300L);
        Due.due("5: row of 33", rows.row(2, 33), 700082062419L);
        Due.due("5: row of 100", rows.row(2, 100), 343597383680L);
        Due.due("5: row of 1000", rows.row(2, 1000), 16777280L);
        Due.due("5: row of 53021", rows.row(2, 53021), 4718592L);
        Due.due("5: row of 65535", rows.row(2, 65535), 2064L);
    }

    private static void sums() {
        FountainRows rows = new FountainRows();
        rows.source(4, 2, 3, 77);
        rows.source(32, 8, 1, 0x7FFFFFFF);
        rows.source(3, 0, 1, 1);
        Due.due("6: sum 0", rows.sumRow(0, 0), 9);
        Due.due("6: sum 1", rows.sumRow(0, 1), 3);
        Due.due("6: sum 0", rows.sumRow(1, 0), 1382595424L);
        Due.due("6: sum 1", rows.sumRow(1, 1), 1186730584L);
        Due.due("6: sum 2", rows.sumRow(1, 2), 475215677L);
        Due.due("6: sum 3", rows.sumRow(1, 3), 141935863L);
        Due.due("6: sum 4", rows.sumRow(1, 4), 4273529306L);
        Due.due("6: sum 5", rows.sumRow(1, 5), 3764273337L);
        Due.due("6: sum 6", rows.sumRow(1, 6), 2759882629L);
        Due.due("6: sum 7", rows.sumRow(1, 7), 4066498278L);
        for (int j : new int[] {-1, 2, LOW, HIGH}) {
            Due.due("6: sum " + j, rows.sumRow(0, j), -1);
        }
        Due.due("6: sum 8", rows.sumRow(1, 8), -1);
        Due.due("6: no sums", rows.sumRow(2, 0), -1);
        Due.due("6: no source", rows.sumRow(3, 0), -1);
    }

    private static void parts() {
        FountainRows rows = new FountainRows();
        rows.source(20, 8, 8, -99);
        for (int i = 0; i < 20; i++) {
            rows.symbol(0, i, 0x9E3779B97F4A7C15L * (i + 1));
        }
        for (int j = 0; j < 8; j++) {
            long want = 0;
            for (int i = 0; i < 20; i++) {
                want ^= (rows.sumRow(0, j) >> i & 1) == 1 ? 0x9E3779B97F4A7C15L * (i + 1) : 0;
            }
            Due.due("7: sum " + j, rows.part(0, 20 + j), want);
        }
        Due.due("7: below 0", rows.part(0, 0), 0x9E3779B97F4A7C15L);
        for (int i : new int[] {-1, 28, 40, 64, LOW, HIGH}) {
            Due.due("7: part " + i, rows.part(0, i), 0);
        }
        Due.due("7: no source", rows.part(1, 0), 0);
    }
}
