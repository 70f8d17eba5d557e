/** Promises 13 to 17: what a receiver tells, what it knows, what peeling finds. */
public final class ReceiversTest {
    private static final int LOW = Integer.MIN_VALUE;
    private static final int HIGH = Integer.MAX_VALUE;
    private static final int SEED = 6;

    public static void main(String[] args) {
        toldBounds();
        toldAtFirst();
        taken();
        knownThroughSums();
        emptySum();
        triangle();
        star();
        knownBounds();
        peelingByRowsOrder();
        everything();
        Due.end();
    }

    private static void toldBounds() {
        FountainRows rows = new FountainRows();
        rows.source(1, 0, 1, 0);
        for (int what : new int[] {-1, 10, LOW, HIGH}) {
            Due.due("13: what " + what, rows.told(0, what), -2);
            Due.due("13: -1 before -2", rows.told(1, what), -1);
            Due.due("13: no source", rows.told(what, 0), -1);
        }
    }

    private static void toldAtFirst() {
        FountainRows rows = new FountainRows();
        rows.source(5, 0, 1, SEED);
        int[] want = {0, 0, 0, 0, 0, 0, 5, 0, 0, 0};
        for (int what = 0; what < 10; what++) {
            Due.due("13: at first, " + what, rows.told(0, what), want[what]);
        }
        rows.source(32, 8, 1, SEED);
        Due.due("13: the sums' rank", rows.told(1, 0), 8);
        Due.due("13: taken", rows.told(1, 1), 0);
        Due.due("13: all parts are somewhere",
                rows.told(1, 4) + rows.told(1, 5) + rows.told(1, 6), 40);
    }

    private static void taken() {
        FountainRows rows = new FountainRows();
        rows.source(3, 1, 1, SEED);
        Due.due("14: none", rows.taken(0, 0), -1);
        int[] numbers = {2, 65535, 0, 300};
        for (int x : numbers) {
            Setup.send(rows, 0, x);
            Setup.send(rows, 0, x);
        }
        for (int k = 0; k < 4; k++) {
            Due.due("14: number " + k, rows.taken(0, k), numbers[k]);
        }
        for (int k : new int[] {-1, 4, 64, LOW, HIGH}) {
            Due.due("14: number " + k, rows.taken(0, k), -1);
        }
        Due.due("14: no source", rows.taken(1, 0), -1);
    }

    /** Source 4, 2, 3, 77 has the sums 0 ^ 3 and 0 ^ 1. */
    private static void knownThroughSums() {
        FountainRows rows = new FountainRows();
        rows.source(4, 2, 3, 77);
        rows.symbol(0, 0, 0x010203);
        rows.symbol(0, 1, 0x405060);
        rows.symbol(0, 3, 0xFFFFFF);
        Setup.send(rows, 0, 0);
        Setup.send(rows, 0, 1);
        Due.due("15: sum 0 ^ 1", rows.isKnown(0, 5), 1);
        Due.due("16: sum 0 ^ 1", rows.known(0, 5), 0x415263);
        Due.due("15: sum 0 ^ 3", rows.isKnown(0, 4), 0);
        Due.due("16: sum 0 ^ 3", rows.known(0, 4), 0);
        Due.due("15: symbol 3", rows.isKnown(0, 3), 0);
        Due.due("13: known", rows.told(0, 3), 3);
        Due.due("13: peeled", rows.told(0, 4), 4);
        Due.due("17: symbol 3 is inactive", rows.peeled(0, 3), 2);
        Due.due("17: sum 0 ^ 3 is peeled then", rows.peeled(0, 4), 1);
        Due.due("17: symbol 2", rows.peeled(0, 2), 0);
        Due.due("13: untouched", rows.told(0, 6), 1);
        Setup.send(rows, 0, 2);
        Due.due("13: not done", rows.told(0, 2), 0);
        Setup.send(rows, 0, 3);
        Due.due("13: done", rows.told(0, 2), 1);
        Due.due("13: all known", rows.told(0, 3), 6);
        Due.due("16: sum 0 ^ 3", rows.known(0, 4), 0xFEFDFC);
    }

    private static void emptySum() {
        FountainRows rows = new FountainRows();
        rows.source(1, 1, 1, 200);
        rows.symbol(0, 0, 9);
        Due.due("6: none", rows.sumRow(0, 0), 0);
        Due.due("7: 0s", rows.part(0, 1), 0);
        Due.due("15: known at once", rows.isKnown(0, 1), 1);
        Due.due("13: known", rows.told(0, 3), 1);
        Due.due("17: peeled", rows.peeled(0, 1), 1);
        Due.due("17: untouched", rows.peeled(0, 0), 0);
        Due.due("13: rank", rows.told(0, 0), 1);
        Due.due("13: not done", rows.told(0, 2), 0);
    }

    private static FountainRows pairs(int k, int[][] pairs) {
        FountainRows rows = new FountainRows();
        Setup.onlyDegree(rows, 2);
        rows.source(k, 0, 1, SEED);
        for (int[] pair : pairs) {
            Setup.send(rows, 0, Setup.pair(k, SEED, pair[0], pair[1]));
        }
        return rows;
    }

    private static void duePeeling(String name, FountainRows rows, int... want) {
        int[] counts = new int[3];
        for (int i = 0; i < want.length; i++) {
            Due.due("17: " + name + ", part " + i, rows.peeled(0, i), want[i]);
            counts[want[i]]++;
        }
        Due.due("13: peeled, " + name, rows.told(0, 4), counts[1]);
        Due.due("13: inactive, " + name, rows.told(0, 5), counts[2]);
        Due.due("13: untouched, " + name, rows.told(0, 6), counts[0]);
    }

    /** All parts stand in two rows each: the least is inactive. */
    private static void triangle() {
        FountainRows rows = pairs(4, new int[][] {{2, 3}, {1, 2}, {1, 3}});
        duePeeling("triangle", rows, 0, 2, 1, 1);
        Due.due("13: rank", rows.told(0, 0), 2);
        Due.due("13: known", rows.told(0, 3), 0);
        Setup.send(rows, 0, 3);
        duePeeling("triangle with one told", rows, 0, 1, 1, 1);
        Due.due("13: known", rows.told(0, 3), 3);
    }

    /** The part that most rows have is inactive, though it is not the least. */
    private static void star() {
        FountainRows rows = pairs(6, new int[][] {{0, 3}, {1, 3}, {3, 4}});
        duePeeling("star", rows, 1, 1, 0, 2, 1, 0);
        FountainRows two = pairs(6, new int[][] {{0, 5}, {1, 2}, {2, 4}});
        duePeeling("two trees", two, 2, 1, 2, 0, 1, 1);
    }

    private static void knownBounds() {
        FountainRows rows = new FountainRows();
        rows.source(2, 1, 8, SEED);
        rows.symbol(0, 0, -1);
        Setup.send(rows, 0, 0);
        Due.due("16: eight bytes", rows.known(0, 0), -1);
        for (int i : new int[] {-1, 3, 39, 40, 64, LOW, HIGH}) {
            Due.due("15: part " + i, rows.isKnown(0, i), -1);
            Due.due("16: part " + i, rows.known(0, i), 0);
            Due.due("17: part " + i, rows.peeled(0, i), -1);
        }
        for (int s : new int[] {-1, 1, 4, LOW, HIGH}) {
            Due.due("15: source " + s, rows.isKnown(s, 0), -1);
            Due.due("16: source " + s, rows.known(s, 0), 0);
            Due.due("17: source " + s, rows.peeled(s, 0), -1);
        }
    }

    /** Rows that say nothing new still count in peeling. */
    private static void peelingByRowsOrder() {
        FountainRows rows = pairs(5, new int[][] {{0, 1}, {2, 3}, {3, 4}});
        duePeeling("before", rows, 2, 1, 1, 2, 1);
        rows = pairs(5, new int[][] {{0, 1}, {1, 2}, {2, 3}, {1, 3}});
        duePeeling("a cycle and a tail", rows, 1, 2, 1, 1, 0);
        Due.due("13: four rows", rows.told(0, 1), 4);
        Due.due("13: of rank 3", rows.told(0, 0), 3);
    }

    /** Whatever comes, what is known is what the source has. */
    private static void everything() {
        FountainRows rows = new FountainRows();
        rows.source(12, 3, 5, -123456);
        for (int i = 0; i < 12; i++) {
            rows.symbol(0, i, 0x123456789AL * (i + 3));
        }
        int done = 0;
        for (int x = 500; x < 560 && done == 0; x++) {
            Setup.send(rows, 0, x);
            done = rows.told(0, 2);
        }
        Due.due("13: done without any part alone", done, 1);
        Due.due("13: known", rows.told(0, 3), 15);
        for (int i = 0; i < 15; i++) {
            Due.due("15: part " + i, rows.isKnown(0, i), 1);
            Due.due("16: part " + i, rows.known(0, i), rows.part(0, i));
        }
    }
}
