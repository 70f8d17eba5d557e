/** Promises 13 to 17: a test for each sentence with an edge. */
public final class EdgesOfReceiversTest {
    private static final int LOW = Setup.LOW;
    private static final int HIGH = Setup.HIGH;
    private static final int[] NO_SOURCES = {-1, 2, 3, 4, LOW, HIGH};
    private static final int SEED = 6;

    public static void main(String[] args) {
        toldOfNothing();
        toldOfAll();
        partsPeeledInactiveUntouched();
        countedByTakeAlone();
        countsUpTo();
        toldOfNoSource();
        whatOutside();
        toldRefusalsInOrder();
        takenFromZero();
        noSuchTaken();
        isKnownOrNot();
        isKnownOfNone();
        knownBelowZero();
        knownZero();
        notKnown();
        knownOfNone();
        peeledInactiveUntouched();
        peeledOfNone();
        Due.end();
    }

    /** The least and the greatest that can be. */
    private static FountainRows twoSources() {
        FountainRows rows = new FountainRows();
        rows.source(1, 0, 1, SEED);
        rows.source(32, 8, 8, SEED);
        return rows;
    }

    private static void dueTold(FountainRows rows, int source, int... want) {
        for (int what = 0; what < want.length; what++) {
            Due.due("told " + what + " of " + source, rows.told(source, what), want[what]);
        }
    }

    private static void toldOfNothing() {
        Due.sentence("Promise 13", "what = 0 RANK, 1 how many it has TAKEN, 2 whether it is DONE (1, 0)");
        FountainRows rows = twoSources();
        dueTold(rows, 0, 0, 0, 0, 0, 0, 0, 1, 0, 0, 0);
        dueTold(rows, 1, 8, 0, 0, 0);
    }

    private static void toldOfAll() {
        Due.sentence("Promise 13", "3 KNOWN PARTS, 4 PEELED, 5 INACTIVE, 6 UNTOUCHED PARTS");
        FountainRows rows = twoSources();
        Setup.send(rows, 0, 0);
        dueTold(rows, 0, 1, 1, 1, 1, 1, 0, 0, 0, 0, 0);
        for (int x = 0; x < 32; x++) {
            Setup.send(rows, 1, x);
        }
        dueTold(rows, 1, 40, 32, 1, 40, 40, 0, 0, 0, 0, 0);
    }

    /** Rows 1 ^ 2 alone, and 4 alone: one of each kind at least. */
    private static void partsPeeledInactiveUntouched() {
        Due.sentence("Promise 13", "4 PEELED, 5 INACTIVE, 6 UNTOUCHED PARTS");
        FountainRows rows = new FountainRows();
        Setup.onlyDegree(rows, 2);
        rows.source(6, 0, 1, SEED);
        Setup.send(rows, 0, Setup.pair(6, SEED, 1, 2));
        dueTold(rows, 0, 1, 1, 0, 0, 1, 1, 4);
        Setup.send(rows, 0, 4);
        dueTold(rows, 0, 2, 2, 0, 1, 2, 1, 3);
        Setup.send(rows, 0, 2);
        dueTold(rows, 0, 3, 3, 0, 3, 3, 0, 3);
    }

    private static void countedByTakeAlone() {
        Due.sentence("Promise 13", "(by take() alone; resume() leaves them)");
        FountainRows rows = new FountainRows();
        rows.source(1, 0, 1, SEED);
        Setup.give(rows, 0, 0, 1);
        Setup.give(rows, 0, 1, 1);
        Setup.give(rows, 0, 2, 1);
        rows.image(0);
        Setup.writeImage(rows, 1, 0, 1, 0, 0, 0, SEED, 0, 3, 0, 0, 7, 0, 0, 8, 0, 1, 8);
        Due.due("one twice, one contrary", rows.resume(0), 1);
        Due.due("one taken", rows.told(0, 1), 1);
        dueTold(rows, 0, 1, 1, 1, 1, 1, 0, 0, 0, 0, 0);
        Setup.give(rows, 0, 0, 7);
        Setup.give(rows, 0, 1, 9);
        rows.poke(0, 1);
        rows.take();
        dueTold(rows, 0, 1, 1, 1, 1, 1, 0, 0, 1, 1, 1);
        rows.resume(0);
        dueTold(rows, 0, 1, 1, 1, 1, 1, 0, 0, 1, 1, 1);
        rows.setByte(17, 1);
        Due.due("a fault", rows.resume(0), -14);
        dueTold(rows, 0, 1, 1, 1, 1, 1, 0, 0, 1, 1, 1);
    }

    private static void countsUpTo() {
        Due.sentence("Promise 13", "7 to 9 how many FRAMES were WRONG, TWICE, CONTRARY");
        FountainRows rows = new FountainRows();
        rows.source(1, 0, 1, SEED);
        rows.source(1, 0, 1, SEED);
        Setup.send(rows, 0, 0);
        for (int n = 1; n <= 150; n++) {
            rows.take();
        }
        rows.poke(3, 1);
        for (int n = 1; n <= 140; n++) {
            rows.take();
        }
        rows.frame(0, 1);
        rows.poke(2, 1);
        rows.sign();
        for (int n = 1; n <= 130; n++) {
            rows.take();
        }
        dueTold(rows, 0, 1, 1, 1, 1, 1, 0, 0, 140, 150, 130);
        dueTold(rows, 1, 0, 0, 0, 0, 0, 0, 1, 0, 0, 0);
    }

    private static void toldOfNoSource() {
        Due.sentence("Promise 13", "resume() leaves them). -1");
        FountainRows rows = twoSources();
        for (int s : NO_SOURCES) {
            for (int what = 0; what < 10; what++) {
                Due.due("source " + s + ", " + what, rows.told(s, what), -1);
            }
        }
    }

    private static void whatOutside() {
        Due.sentence("Promise 13", "-2");
        FountainRows rows = twoSources();
        for (int what : new int[] {-1, 10, 11, 256, LOW, HIGH}) {
            Due.due("what " + what, rows.told(0, what), -2);
            Due.due("what " + what, rows.told(1, what), -2);
        }
    }

    private static void toldRefusalsInOrder() {
        Due.sentence("Promise 13", "-1, -2");
        FountainRows rows = twoSources();
        for (int s : NO_SOURCES) {
            Due.due("too small as well", rows.told(s, -1), -1);
            Due.due("too large as well", rows.told(s, 10), -1);
        }
    }

    private static void takenFromZero() {
        Due.sentence("Promise 14", "The number that was TAKEN k-th, from 0");
        FountainRows rows = new FountainRows();
        rows.source(1, 0, 1, SEED);
        for (int k = 0; k < 64; k++) {
            Setup.send(rows, 0, 65535 - 1000 * k);
        }
        for (int k = 0; k < 64; k++) {
            Due.due("number " + k, rows.taken(0, k), 65535 - 1000 * k);
        }
    }

    private static void noSuchTaken() {
        Due.sentence("Promise 14", "from 0. -1.");
        FountainRows rows = twoSources();
        Due.due("none yet", rows.taken(0, 0), -1);
        Setup.send(rows, 0, 9);
        Setup.send(rows, 0, 9);
        Due.due("one", rows.taken(0, 0), 9);
        for (int k : new int[] {-1, 1, 2, 63, 64, LOW, HIGH}) {
            Due.due("number " + k, rows.taken(0, k), -1);
        }
        for (int s : NO_SOURCES) {
            Due.due("source " + s, rows.taken(s, 0), -1);
        }
        for (int x = 100; x < 163; x++) {
            Setup.send(rows, 0, x);
        }
        Due.due("the 64th", rows.taken(0, 63), 162);
        Due.due("no 65th", rows.taken(0, 64), -1);
    }

    private static void isKnownOrNot() {
        Due.sentence("Promise 15", "Whether a PART is KNOWN: 1 or 0");
        FountainRows rows = twoSources();
        for (int i : new int[] {0, 31, 32, 39}) {
            Due.due("not yet, part " + i, rows.isKnown(1, i), 0);
        }
        for (int x = 0; x < 31; x++) {
            Setup.send(rows, 1, x);
        }
        Due.due("the first", rows.isKnown(1, 0), 1);
        Due.due("the last but one", rows.isKnown(1, 30), 1);
        Due.due("the last symbol, not yet", rows.isKnown(1, 31), 0);
        for (int j = 0; j < 8; j++) {
            Due.due("sum " + j + ", if it has no symbol 31", rows.isKnown(1, 32 + j),
                    1 - (rows.sumRow(1, j) >> 31));
        }
        Setup.send(rows, 1, 31);
        Due.due("the last symbol", rows.isKnown(1, 31), 1);
        Due.due("the last sum", rows.isKnown(1, 39), 1);
    }

    private static void isKnownOfNone() {
        Due.sentence("Promise 15", "1 or 0. -1.");
        FountainRows rows = twoSources();
        for (int i : new int[] {-1, 1, 31, 32, 40, 64, LOW, HIGH}) {
            Due.due("part " + i + " of one", rows.isKnown(0, i), -1);
        }
        for (int i : new int[] {-1, 40, 41, 63, 64, LOW, HIGH}) {
            Due.due("part " + i + " of 40", rows.isKnown(1, i), -1);
        }
        for (int s : NO_SOURCES) {
            Due.due("source " + s, rows.isKnown(s, 0), -1);
        }
    }

    private static void knownBelowZero() {
        Due.sentence("Promise 16", "A KNOWN PART's bytes as a number, the first one the highest");
        FountainRows rows = twoSources();
        Setup.give(rows, 0, 0, 255);
        Due.due("one byte", rows.known(0, 0), 255);
        long[] values = {-1, Long.MIN_VALUE, Long.MAX_VALUE, 0x0123456789ABCDEFL};
        for (int x = 0; x < 4; x++) {
            Setup.give(rows, 1, x, values[x]);
            Due.due("eight bytes", rows.known(1, x), values[x]);
        }
    }

    private static void knownZero() {
        Due.sentence("Promise 16", "0 where it is not KNOWN");
        FountainRows rows = twoSources();
        Due.due("not known", rows.known(0, 0), 0);
        Due.due("no", rows.isKnown(0, 0), 0);
        Setup.give(rows, 0, 0, 0);
        Due.due("known as 0", rows.known(0, 0), 0);
        Due.due("yes", rows.isKnown(0, 0), 1);
    }

    /** 0 ^ 1 has bytes, yet neither part is known. */
    private static void notKnown() {
        Due.sentence("Promise 16", "0 where it is not KNOWN, or there is none");
        FountainRows rows = new FountainRows();
        Setup.onlyDegree(rows, 2);
        rows.source(3, 0, 1, SEED);
        rows.symbol(0, 0, 5);
        rows.symbol(0, 1, 6);
        Setup.give(rows, 0, Setup.pair(3, SEED, 0, 1), 99);
        for (int i = 0; i < 3; i++) {
            Due.due("part " + i, rows.known(0, i), 0);
        }
    }

    private static void knownOfNone() {
        Due.sentence("Promise 16", "or there is none");
        FountainRows rows = twoSources();
        Setup.give(rows, 0, 0, 255);
        for (int x = 0; x < 32; x++) {
            rows.symbol(1, x, -1);
            Setup.send(rows, 1, x);
        }
        for (int i : new int[] {-1, 1, 32, 39, 40, 64, LOW, HIGH}) {
            Due.due("part " + i + " of one", rows.known(0, i), 0);
        }
        for (int i : new int[] {-1, 40, 41, 63, 64, LOW, HIGH}) {
            Due.due("part " + i + " of 40", rows.known(1, i), 0);
        }
        for (int s : NO_SOURCES) {
            Due.due("source " + s, rows.known(s, 0), 0);
        }
        Due.due("the last symbol", rows.known(1, 31), -1);
        Due.due("the last sum", rows.known(1, 39), -(Long.bitCount(rows.sumRow(1, 7)) & 1));
    }

    private static void peeledInactiveUntouched() {
        Due.sentence("Promise 17", "Whether PART i is PEELED (1), INACTIVE (2), UNTOUCHED (0)");
        FountainRows rows = new FountainRows();
        Setup.onlyDegree(rows, 2);
        rows.source(31, 0, 1, SEED);
        Setup.send(rows, 0, Setup.pair(31, SEED, 0, 30));
        Due.due("the first", rows.peeled(0, 0), 2);
        Due.due("the last", rows.peeled(0, 30), 1);
        Due.due("between", rows.peeled(0, 15), 0);
        Setup.send(rows, 0, 30);
        Due.due("the first, with the last alone", rows.peeled(0, 0), 1);
        Due.due("the last, alone", rows.peeled(0, 30), 1);
    }

    private static void peeledOfNone() {
        Due.sentence("Promise 17", "UNTOUCHED (0). -1.");
        FountainRows rows = twoSources();
        for (int i : new int[] {-1, 1, 31, 40, 64, LOW, HIGH}) {
            Due.due("part " + i + " of one", rows.peeled(0, i), -1);
        }
        for (int i : new int[] {-1, 40, 41, 63, 64, LOW, HIGH}) {
            Due.due("part " + i + " of 40", rows.peeled(1, i), -1);
        }
        for (int s : NO_SOURCES) {
            Due.due("source " + s, rows.peeled(s, 0), -1);
        }
        Due.due("the last part", rows.peeled(1, 39) >= 0 ? 1 : 0, 1);
    }
}
