/** The Terms, part 2: a test for each sentence with an edge, about the receiver and about peeling. */
public final class EdgesOfPart2Test {
    private static final int SEED = 6;

    public static void main(String[] args) {
        rowsAtFirst();
        behindThemWhatWasTaken();
        everyBitOfAFrame();
        wrongIsNotTaken();
        numberNotTaken();
        sameRowIsNotTwice();
        rowOfSomeBefore();
        contraryToSumsAlone();
        contraryByOneBit();
        contraryIsNotTaken();
        rowOfNoneBefore();
        rankOfAllRows();
        knownByItsOwnRow();
        knownIsWhatTheseHave();
        doneWithAll();
        peelingWithoutRows();
        peelingJustOne();
        peelingOneAfterTheOther();
        peelingTwoOrMore();
        peelingMost();
        peelingLeastOfSeveral();
        peelingEnds();
        peelingAllForty();
        Due.end();
    }

    private static FountainRows byPairs(int k, int p, int... ends) {
        FountainRows rows = new FountainRows();
        Setup.onlyDegree(rows, 2);
        rows.source(k, p, 1, SEED);
        for (int i = 0; i + 1 < ends.length; i += 2) {
            Setup.send(rows, 0, Setup.numberOf(k, p, SEED, ends[i], ends[i + 1]));
        }
        return rows;
    }

    private static void duePeeling(FountainRows rows, int... want) {
        for (int i = 0; i < want.length; i++) {
            Due.due("peeled, part " + i, rows.peeled(0, i), want[i]);
        }
        Due.due("behind the last", rows.peeled(0, want.length), -1);
    }

    private static void rowsAtFirst() {
        Due.sentence("Part 2", "ROWS: at first those of the SUMS");
        int[] sums = {0, 1, 7, 8};
        FountainRows rows = new FountainRows();
        for (int s = 0; s < 4; s++) {
            rows.source(1 + s, sums[s], 1, SEED);
            Due.due("rank with sums " + sums[s], rows.told(s, 0), sums[s]);
            Due.due("taken", rows.told(s, 1), 0);
        }
    }

    /** The sums' rows have their part and its symbols: with these the part is known, and 0 is their ^. */
    private static void behindThemWhatWasTaken() {
        Due.sentence("Part 2", "(PART K + j and its SYMBOLS: the ^ of all is 0), in order; behind them what was TAKEN");
        FountainRows rows = new FountainRows();
        rows.source(4, 2, 1, 77);
        Setup.give(rows, 0, 0, 0x50);
        Setup.give(rows, 0, 3, 0x05);
        Due.due("sum 0 ^ 3", rows.known(0, 4), 0x55);
        Due.due("sum 0 ^ 1 is not known", rows.isKnown(0, 5), 0);
        Setup.give(rows, 0, 1, 0x50);
        Due.due("sum 0 ^ 1 is 0", rows.isKnown(0, 5), 1);
        Due.due("0", rows.known(0, 5), 0);
    }

    private static void everyBitOfAFrame() {
        Due.sentence("Part 2", "its SUM is right (else: WRONG)");
        FountainRows rows = new FountainRows();
        rows.source(2, 0, 1, SEED);
        rows.symbol(0, 1, 0xC3);
        rows.frame(0, 1);
        for (int bit = 0; bit < 40; bit++) {
            rows.poke(bit / 8, 1 << bit % 8);
            Due.due("bit " + bit, rows.take(), -5);
            rows.poke(bit / 8, 1 << bit % 8);
        }
        Due.due("wrong", rows.told(0, 7), 40);
        Due.due("right", rows.take(), 1);
    }

    private static void wrongIsNotTaken() {
        Due.sentence("Part 2", "A FRAME is TAKEN, if its SUM is right (else: WRONG)");
        FountainRows rows = new FountainRows();
        rows.source(2, 0, 1, SEED);
        rows.frame(0, 1);
        rows.poke(3, 1);
        rows.take();
        Due.due("none taken", rows.told(0, 1), 0);
        Due.due("not known", rows.isKnown(0, 1), 0);
        rows.poke(3, 1);
        Due.due("so it is not twice", rows.take(), 1);
    }

    private static void numberNotTaken() {
        Due.sentence("Part 2", "its x was not TAKEN (else: TWICE)");
        FountainRows rows = new FountainRows();
        rows.source(2, 0, 1, SEED);
        for (int x : new int[] {0, 65535}) {
            Setup.send(rows, 0, x);
            Due.due("the same", rows.take(), -6);
            Due.due("with other bytes", Setup.give(rows, 0, x, 99), -6);
        }
        Due.due("twice", rows.told(0, 8), 4);
        Due.due("taken", rows.told(0, 1), 2);
        rows.source(2, 0, 1, SEED);
        Due.due("another's was not taken here", Setup.send(rows, 1, 0), 1);
    }

    private static void sameRowIsNotTwice() {
        Due.sentence("Part 2", "its x was not TAKEN");
        FountainRows rows = new FountainRows();
        rows.source(1, 0, 1, SEED);
        for (int x = 0; x < 10; x++) {
            Due.due("the row of 0 again, by " + x, Setup.send(rows, 0, x), 1);
        }
        Due.due("all are taken", rows.told(0, 1), 10);
        Due.due("none was twice", rows.told(0, 8), 0);
    }

    private static void rowOfSomeBefore() {
        Due.sentence("Part 2", "if the ROW is the ^ of some of them, its OUTPUT must be the ^ of theirs");
        int last = Setup.pair(4, SEED, 0, 3);
        FountainRows rows = byPairs(4, 0, 0, 1, 1, 2, 2, 3);
        Due.due("another output", Setup.give(rows, 0, last, 1), -7);
        Due.due("contrary", rows.told(0, 9), 1);
        Due.due("that output", Setup.give(rows, 0, last, 0), 3);
        Due.due("is taken", rows.told(0, 1), 4);
        Due.due("not contrary", rows.told(0, 9), 1);
    }

    /** The sum of no symbols is known to be 0s before anything was taken. */
    private static void contraryToSumsAlone() {
        Due.sentence("Part 2", "does not say otherwise than the ROWS before");
        FountainRows rows = new FountainRows();
        Setup.onlyDegree(rows, 1);
        rows.source(1, 1, 1, 200);
        int x = Setup.numberOf(1, 1, 200, 1);
        Due.due("the sum's row", rows.row(0, x), 2);
        Due.due("not 0", Setup.give(rows, 0, x, 128), -7);
        Due.due("0", Setup.give(rows, 0, x, 0), 1);
    }

    private static void contraryByOneBit() {
        Due.sentence("Part 2", "its OUTPUT must be the ^ of theirs; else: CONTRARY");
        FountainRows rows = new FountainRows();
        rows.source(1, 0, 8, SEED);
        rows.symbol(0, 0, 0x8000000000000001L);
        Setup.send(rows, 0, 0);
        rows.frame(0, 1);
        for (int bit = 0; bit < 64; bit++) {
            rows.poke(2 + bit / 8, 1 << bit % 8);
            rows.sign();
            Due.due("bit " + bit, rows.take(), -7);
            rows.poke(2 + bit / 8, 1 << bit % 8);
        }
        rows.sign();
        Due.due("as it was", rows.take(), 1);
        Due.due("contrary", rows.told(0, 9), 64);
    }

    private static void contraryIsNotTaken() {
        Due.sentence("Part 2", "A FRAME is TAKEN, if ... (... else: CONTRARY)");
        FountainRows rows = new FountainRows();
        rows.source(1, 0, 1, SEED);
        Setup.give(rows, 0, 0, 5);
        Due.due("contrary", Setup.give(rows, 0, 7, 4), -7);
        Due.due("one taken", rows.told(0, 1), 1);
        Due.due("known as before", rows.known(0, 0), 5);
        Due.due("so it is not twice", Setup.give(rows, 0, 7, 5), 1);
        Due.due("two taken", rows.told(0, 1), 2);
    }

    /** Altered, but the first to say something of its row: nothing speaks against it. */
    private static void rowOfNoneBefore() {
        Due.sentence("Part 2", "if the ROW is the ^ of some of them");
        FountainRows rows = byPairs(4, 0, 0, 1, 2, 3);
        rows.symbol(0, 0, 1);
        Due.due("0 ^ 2", Setup.give(rows, 0, Setup.pair(4, SEED, 0, 2), 200), 3);
        Due.due("0", Setup.give(rows, 0, 0, 33), 4);
        Due.due("2", rows.known(0, 2), 200 ^ 33);
    }

    private static void rankOfAllRows() {
        Due.sentence("Part 2", "RANK is how many of all ROWS are not the ^ of others before them");
        FountainRows rows = byPairs(4, 0);
        int[] ends = {0, 1, 1, 2, 0, 2, 2, 3, 0, 3, 1, 3};
        int[] want = {1, 2, 2, 3, 3, 3};
        for (int n = 0; n < 6; n++) {
            int x = Setup.pair(4, SEED, ends[2 * n], ends[2 * n + 1]);
            Due.due("pair " + n, Setup.send(rows, 0, x), want[n]);
            Due.due("told", rows.told(0, 0), want[n]);
        }
        Due.due("one alone", Setup.send(rows, 0, 2), 4);
        Due.due("all", Setup.send(rows, 0, 0), 4);
    }

    private static void knownByItsOwnRow() {
        Due.sentence("Part 2", "A PART is KNOWN, if its own ROW is the ^ of some ROWS");
        FountainRows rows = byPairs(5, 0, 0, 1, 1, 2, 3, 4);
        for (int i = 0; i < 5; i++) {
            Due.due("pairs alone, part " + i, rows.isKnown(0, i), 0);
        }
        Setup.send(rows, 0, 1);
        int[] want = {1, 1, 1, 0, 0};
        for (int i = 0; i < 5; i++) {
            Due.due("with one of them, part " + i, rows.isKnown(0, i), want[i]);
        }
        Due.due("known", rows.told(0, 3), 3);
    }

    private static void knownIsWhatTheseHave() {
        Due.sentence("Part 2", "then it is the ^ of what these have");
        FountainRows rows = byPairs(3, 0);
        Setup.give(rows, 0, Setup.pair(3, SEED, 0, 1), 0x0F);
        Setup.give(rows, 0, Setup.pair(3, SEED, 1, 2), 0xF0);
        Setup.give(rows, 0, 2, 0xAA);
        Due.due("2", rows.known(0, 2), 0xAA);
        Due.due("1", rows.known(0, 1), 0x5A);
        Due.due("0", rows.known(0, 0), 0x55);
        Due.due("the source has others", rows.part(0, 0), 0);
    }

    private static void doneWithAll() {
        Due.sentence("Part 2", "It is DONE, when RANK is K + P");
        FountainRows rows = new FountainRows();
        rows.source(1, 0, 1, SEED);
        rows.source(32, 8, 1, SEED);
        Due.due("none of one", rows.told(0, 2), 0);
        Setup.send(rows, 0, 0);
        Due.due("one of one", rows.told(0, 2), 1);
        for (int x = 0; x < 31; x++) {
            Setup.send(rows, 1, x);
            Due.due("rank " + (9 + x), rows.told(1, 2), 0);
        }
        Due.due("40", Setup.send(rows, 1, 31), 40);
        Due.due("rank 40", rows.told(1, 2), 1);
    }

    private static void peelingWithoutRows() {
        Due.sentence("Part 2", "Else it ends: what is OPEN still is UNTOUCHED");
        FountainRows rows = byPairs(3, 0);
        duePeeling(rows, 0, 0, 0);
        Due.due("peeled", rows.told(0, 4), 0);
        Due.due("inactive", rows.told(0, 5), 0);
        Due.due("untouched", rows.told(0, 6), 3);
    }

    private static void peelingJustOne() {
        Due.sentence("Part 2", "the first ROW with just one OPEN PART: that is PEELED");
        FountainRows rows = byPairs(3, 0);
        Setup.send(rows, 0, 1);
        duePeeling(rows, 0, 1, 0);
        FountainRows one = new FountainRows();
        one.source(1, 0, 1, SEED);
        Due.due("before", one.peeled(0, 0), 0);
        Setup.send(one, 0, 0);
        Due.due("the only part", one.peeled(0, 0), 1);
    }

    private static void peelingOneAfterTheOther() {
        Due.sentence("Part 2", "Again and again: the first ROW with just one OPEN PART");
        FountainRows rows = byPairs(6, 0, 3, 4, 2, 3, 1, 2, 0, 1);
        Setup.send(rows, 0, 0);
        duePeeling(rows, 1, 1, 1, 1, 1, 0);
        Due.due("peeled", rows.told(0, 4), 5);
        Due.due("inactive", rows.told(0, 5), 0);
        Due.due("untouched", rows.told(0, 6), 1);
    }

    private static void peelingTwoOrMore() {
        Due.sentence("Part 2", "if ROWS have two OPEN PARTS or more");
        duePeeling(byPairs(3, 0, 1, 2), 0, 2, 1);
        FountainRows rows = new FountainRows();
        Setup.onlyDegree(rows, 12);
        rows.source(12, 0, 1, SEED);
        Setup.send(rows, 0, 12);
        duePeeling(rows, 2, 2, 2, 2, 2, 2, 2, 2, 2, 2, 2, 1);
    }

    private static void peelingMost() {
        Due.sentence("Part 2", "of all OPEN PARTS the one that most of these ROWS have");
        duePeeling(byPairs(5, 0, 0, 4, 1, 4, 2, 4, 0, 1), 1, 1, 1, 0, 2);
        duePeeling(byPairs(5, 0, 0, 4, 3, 4, 2, 4), 1, 0, 1, 1, 2);
    }

    private static void peelingLeastOfSeveral() {
        Due.sentence("Part 2", "the least of several, is INACTIVE");
        duePeeling(byPairs(5, 0, 3, 4, 2, 3, 2, 4), 0, 0, 2, 1, 1);
        duePeeling(byPairs(4, 0, 2, 3, 0, 1), 2, 1, 2, 1);
    }

    private static void peelingEnds() {
        Due.sentence("Part 2", "Neither is OPEN any more. Else it ends");
        FountainRows rows = byPairs(4, 0, 0, 1, 1, 2, 0, 2, 2, 3, 1, 3, 0, 3);
        duePeeling(rows, 2, 1, 1, 1);
        Due.due("more rows than parts", rows.told(0, 1), 6);
        Due.due("untouched", rows.told(0, 6), 0);
    }

    private static void peelingAllForty() {
        Due.sentence("Part 2", "PEELING: all PARTS are OPEN");
        FountainRows rows = new FountainRows();
        rows.source(32, 8, 1, SEED);
        for (int x = 0; x < 32; x++) {
            Setup.send(rows, 0, x);
        }
        for (int i = 0; i < 40; i++) {
            Due.due("part " + i, rows.peeled(0, i), 1);
        }
        Due.due("peeled", rows.told(0, 4), 40);
        Due.due("inactive", rows.told(0, 5), 0);
        Due.due("untouched", rows.told(0, 6), 0);
    }
}
