/** The Terms, part 3: a test for each sentence with an edge, about images and resuming. */
public final class EdgesOfPart3Test {
    private static final int SEED = 0xF1E2D3C4;

    public static void main(String[] args) {
        imageOfNone();
        imageOfOne();
        imageOfSixtyFour();
        imageSeeds();
        imageSum();
        faultTooShort();
        faultOtherSource();
        faultOtherLength();
        faultSum();
        faultsInOrder();
        nothingOfBefore();
        noRowsOfBefore();
        resumedFromNone();
        takenInOrder();
        asIfTheirSumsWereRight();
        twiceLeftOut();
        contraryLeftOut();
        beyondSixtyFourLeftOut();
        leftOutTakesNoRoom();
        Due.end();
    }

    /** A receiver of 4 symbols of 3 bytes and 2 sums that has taken 3 and 1. */
    private static FountainRows twoTaken() {
        FountainRows rows = new FountainRows();
        rows.source(4, 2, 3, SEED);
        rows.symbol(0, 3, 0x0A0B0C);
        Setup.send(rows, 0, 3);
        Setup.send(rows, 0, 1);
        rows.image(0);
        return rows;
    }

    private static void dueImage(FountainRows rows, int... bytes) {
        Due.due("length", rows.image(0), bytes.length + 2);
        for (int i = 0; i < bytes.length; i++) {
            Due.due("byte " + i, rows.imageByte(i), bytes[i]);
        }
        int sum = Model.sumOf(bytes, 0, bytes.length);
        Due.due("the sum's higher", rows.imageByte(bytes.length), sum >> 8);
        Due.due("the sum's lower", rows.imageByte(bytes.length + 1), sum & 255);
        Due.due("behind", rows.imageByte(bytes.length + 2), -1);
    }

    private static void imageOfNone() {
        Due.sentence("Part 3", "AN IMAGE of a RECEIVER is a row of bytes: K, P, SIZE; SEED");
        FountainRows rows = new FountainRows();
        rows.source(32, 8, 8, 0x01020304);
        dueImage(rows, 32, 8, 8, 1, 2, 3, 4, 0, 0);
        FountainRows least = new FountainRows();
        least.source(1, 0, 1, 0);
        dueImage(least, 1, 0, 1, 0, 0, 0, 0, 0, 0);
    }

    private static void imageOfOne() {
        Due.sentence("Part 3", "for each, in order, x (two) and its bytes");
        FountainRows rows = new FountainRows();
        rows.source(1, 0, 1, 0);
        Setup.give(rows, 0, 65535, 255);
        dueImage(rows, 1, 0, 1, 0, 0, 0, 0, 0, 1, 255, 255, 255);
        FountainRows wide = new FountainRows();
        wide.source(1, 0, 8, 0);
        Setup.give(wide, 0, 256, 0x0102030405060708L);
        Setup.give(wide, 0, 255, 0x0102030405060708L);
        dueImage(wide, 1, 0, 8, 0, 0, 0, 0, 0, 2,
                1, 0, 1, 2, 3, 4, 5, 6, 7, 8, 0, 255, 1, 2, 3, 4, 5, 6, 7, 8);
    }

    private static void imageOfSixtyFour() {
        Due.sentence("Part 3", "how many were TAKEN (two, the higher first)");
        FountainRows rows = new FountainRows();
        rows.source(2, 0, 8, 0);
        for (int x = 0; x < 65; x++) {
            Setup.send(rows, 0, x);
        }
        Due.due("length", rows.image(0), 651);
        Due.due("the higher", rows.imageByte(7), 0);
        Due.due("the lower", rows.imageByte(8), 64);
        Due.due("the last number", rows.imageByte(9 + 63 * 10 + 1), 63);
        Due.due("the last byte", rows.imageByte(650) >= 0 ? 1 : 0, 1);
        Due.due("behind", rows.imageByte(651), -1);
    }

    private static void imageSeeds() {
        Due.sentence("Part 3", "SEED (four, the highest first)");
        int[] seeds = {0, -1, Setup.LOW, Setup.HIGH, 0x80FF01FE};
        int[][] want = {{0, 0, 0, 0}, {255, 255, 255, 255}, {128, 0, 0, 0}, {127, 255, 255, 255},
            {0x80, 0xFF, 0x01, 0xFE}};
        for (int n = 0; n < seeds.length; n++) {
            FountainRows rows = new FountainRows();
            rows.source(1, 0, 1, seeds[n]);
            rows.image(0);
            for (int i = 0; i < 4; i++) {
                Due.due("byte " + i + " of " + seeds[n], rows.imageByte(3 + i), want[n][i]);
            }
            Due.due("taken up again", rows.resume(0), 0);
        }
    }

    private static void imageSum() {
        Due.sentence("Part 3", "SUM of all before (two)");
        FountainRows rows = twoTaken();
        int[] bytes = new int[19];
        for (int i = 0; i < 19; i++) {
            bytes[i] = rows.imageByte(i);
        }
        int sum = Model.sumOf(bytes, 0, 19);
        Due.due("the higher", rows.imageByte(19), sum >> 8);
        Due.due("the lower", rows.imageByte(20), sum & 255);
        Due.due("behind", rows.imageByte(21), -1);
    }

    private static void faultTooShort() {
        Due.sentence("Part 3", "1 fewer than eleven bytes");
        FountainRows rows = twoTaken();
        Setup.writeImage(rows, 4, 2, 3, 0xF1, 0xE2, 0xD3, 0xC4, 0, 0);
        Due.due("eleven", rows.resume(0), 2);
        for (int n = 10; n >= 0; n--) {
            rows.cut(n);
            Due.due("bytes: " + n, rows.resume(0), -11);
        }
    }

    private static void faultOtherSource() {
        Due.sentence("Part 3", "2 K, P, SIZE, SEED are not those of the SOURCE");
        FountainRows rows = new FountainRows();
        rows.source(2, 1, 1, SEED);
        rows.source(3, 1, 1, SEED);
        rows.source(2, 2, 1, SEED);
        rows.source(2, 1, 2, SEED);
        rows.image(0);
        Due.due("its own", rows.resume(0), 1);
        Due.due("another K", rows.resume(1), -12);
        Due.due("another P", rows.resume(2), -12);
        Due.due("another SIZE", rows.resume(3), -12);
        int[] head = {2, 1, 1, 0xF1, 0xE2, 0xD3, 0xC4, 0, 0};
        for (int bit = 0; bit < 56; bit++) {
            int[] other = head.clone();
            other[bit / 8] ^= 1 << bit % 8;
            rows.setByte(bit / 8, other[bit / 8]);
            int sum = Model.sumOf(other, 0, 9);
            rows.setByte(9, sum >> 8);
            rows.setByte(10, sum & 255);
            Due.due("another bit, " + bit, rows.resume(0), -12);
            rows.setByte(bit / 8, head[bit / 8]);
        }
    }

    private static void faultOtherLength() {
        Due.sentence("Part 3", "3 its length is another one than it must be");
        FountainRows rows = twoTaken();
        rows.cut(20);
        Due.due("one too few", rows.resume(0), -13);
        rows.image(0);
        rows.setByte(8, 1);
        Due.due("one entry too long", rows.resume(0), -13);
        rows.cut(17);
        Due.due("one too many", rows.resume(0), -13);
        rows.cut(16);
        Due.due("as it must be", rows.resume(0), -14);
        rows.cut(15);
        Due.due("one too few again", rows.resume(0), -13);
        rows.image(0);
        rows.setByte(7, 1);
        Due.due("258 of them", rows.resume(0), -13);
        rows.setByte(7, 255);
        rows.setByte(8, 255);
        Due.due("65535 of them", rows.resume(0), -13);
        rows.setByte(7, 0);
        rows.setByte(8, 0);
        Due.due("none of them", rows.resume(0), -13);
    }

    private static void faultSum() {
        Due.sentence("Part 3", "4 the SUM");
        FountainRows rows = twoTaken();
        for (int bit = 9 * 8; bit < 21 * 8; bit++) {
            int was = rows.imageByte(bit / 8);
            rows.setByte(bit / 8, was ^ 1 << bit % 8);
            Due.due("another bit, " + bit, rows.resume(0), -14);
            rows.setByte(bit / 8, was);
        }
        Due.due("as it was", rows.resume(0), 4);
    }

    private static void faultsInOrder() {
        Due.sentence("Part 3", "FAULTS in this order");
        FountainRows rows = twoTaken();
        rows.setByte(20, rows.imageByte(20) ^ 1);
        Due.due("4 alone", rows.resume(0), -14);
        rows.setByte(8, 3);
        Due.due("3 before 4", rows.resume(0), -13);
        rows.setByte(6, 0);
        Due.due("2 before 3 and 4", rows.resume(0), -12);
        rows.cut(11);
        Due.due("2 with eleven bytes", rows.resume(0), -12);
        rows.cut(10);
        Due.due("1 before 2, 3 and 4", rows.resume(0), -11);
        Due.due("-1 before all", rows.resume(1), -1);
    }

    private static void nothingOfBefore() {
        Due.sentence("Part 3", "Then the RECEIVER has nothing that it had TAKEN");
        FountainRows rows = twoTaken();
        Setup.give(rows, 0, 0, 0x777777);
        Setup.give(rows, 0, 2, 0x777777);
        Due.due("done before", rows.told(0, 2), 1);
        Due.due("all peeled before", rows.told(0, 4), 6);
        Due.due("rank", rows.resume(0), 4);
        Due.due("taken", rows.told(0, 1), 2);
        Due.due("no third", rows.taken(0, 2), -1);
        Due.due("not done", rows.told(0, 2), 0);
        Due.due("not known", rows.isKnown(0, 0), 0);
        Due.due("0", rows.known(0, 0), 0);
        FountainRows never = twoTaken();
        for (int i = 0; i < 6; i++) {
            Due.due("peeled as if it never had them, " + i, rows.peeled(0, i), never.peeled(0, i));
        }
        Due.due("not contrary to what it had", Setup.give(rows, 0, 0, 0x111111), 5);
        Due.due("known", rows.known(0, 0), 0x111111);
    }

    /** 2 ^ 4 was there before: it would make 2 the one that most rows have. */
    private static void noRowsOfBefore() {
        Due.sentence("Part 3", "has nothing that it had TAKEN");
        FountainRows rows = new FountainRows();
        Setup.onlyDegree(rows, 2);
        rows.source(5, 0, 1, 6);
        Setup.send(rows, 0, Setup.pair(5, 6, 0, 1));
        Setup.send(rows, 0, Setup.pair(5, 6, 2, 3));
        rows.image(0);
        Setup.send(rows, 0, Setup.pair(5, 6, 2, 4));
        int[] before = {2, 1, 2, 1, 1};
        int[] then = {2, 1, 2, 1, 0};
        for (int i = 0; i < 5; i++) {
            Due.due("before, part " + i, rows.peeled(0, i), before[i]);
        }
        Due.due("rank", rows.resume(0), 2);
        for (int i = 0; i < 5; i++) {
            Due.due("then, part " + i, rows.peeled(0, i), then[i]);
        }
    }

    private static void resumedFromNone() {
        Due.sentence("Part 3", "has nothing that it had TAKEN, and takes all of these");
        FountainRows rows = twoTaken();
        Setup.writeImage(rows, 4, 2, 3, 0xF1, 0xE2, 0xD3, 0xC4, 0, 0);
        Due.due("the sums' rank", rows.resume(0), 2);
        Due.due("none taken", rows.told(0, 1), 0);
        Due.due("no first", rows.taken(0, 0), -1);
        Due.due("none known", rows.told(0, 3), 0);
        Due.due("3 can be taken again", Setup.send(rows, 0, 3), 3);
    }

    private static void takenInOrder() {
        Due.sentence("Part 3", "takes all of these, in order");
        FountainRows rows = twoTaken();
        Setup.writeImage(rows, 4, 2, 3, 0xF1, 0xE2, 0xD3, 0xC4, 0, 2,
                255, 255, 1, 2, 3, 0, 0, 4, 5, 6);
        rows.resume(0);
        Due.due("taken", rows.told(0, 1), 2);
        Due.due("the first", rows.taken(0, 0), 65535);
        Due.due("the second", rows.taken(0, 1), 0);
        Due.due("its bytes", rows.known(0, 0), 0x040506);
    }

    /** The image has no SUMS of frames, and none is counted as WRONG. */
    private static void asIfTheirSumsWereRight() {
        Due.sentence("Part 3", "as if their SUMS were right");
        FountainRows rows = twoTaken();
        Setup.writeImage(rows, 4, 2, 3, 0xF1, 0xE2, 0xD3, 0xC4, 0, 1, 0, 2, 9, 9, 9);
        Due.due("rank", rows.resume(0), 3);
        Due.due("known", rows.known(0, 2), 0x090909);
        Due.due("wrong", rows.told(0, 7), 0);
    }

    private static void twiceLeftOut() {
        Due.sentence("Part 3", "(what is TWICE ... is left out)");
        FountainRows rows = twoTaken();
        Setup.send(rows, 0, 0);
        rows.image(0);
        Setup.writeImage(rows, 4, 2, 3, 0xF1, 0xE2, 0xD3, 0xC4, 0, 3,
                0, 2, 0, 0, 7, 0, 2, 0, 0, 8, 0, 1, 0, 0, 9);
        Due.due("rank", rows.resume(0), 4);
        Due.due("taken", rows.told(0, 1), 2);
        Due.due("the first of both", rows.known(0, 2), 7);
        Due.due("the next", rows.taken(0, 1), 1);
        Due.due("its bytes", rows.known(0, 1), 9);
        Due.due("twice", rows.told(0, 8), 0);
        Due.due("a shorter image then", rows.image(0), 21);
    }

    private static void contraryLeftOut() {
        Due.sentence("Part 3", "(what is ... CONTRARY ... is left out)");
        FountainRows rows = new FountainRows();
        rows.source(1, 0, 1, 5);
        for (int x = 0; x < 3; x++) {
            Setup.send(rows, 0, x);
        }
        rows.image(0);
        Setup.writeImage(rows, 1, 0, 1, 0, 0, 0, 5, 0, 3, 0, 9, 70, 0, 8, 71, 0, 7, 70);
        Due.due("rank", rows.resume(0), 1);
        Due.due("taken", rows.told(0, 1), 2);
        Due.due("the first", rows.taken(0, 0), 9);
        Due.due("the second", rows.taken(0, 1), 7);
        Due.due("known", rows.known(0, 0), 70);
        Due.due("contrary", rows.told(0, 9), 0);
        Due.due("the one left out is not twice", Setup.give(rows, 0, 8, 70), 1);
    }

    /** A second source, of one byte, gets an image of n entries, from one of eight bytes that is longer. */
    private static FountainRows longImage(int n, int... twice) {
        FountainRows rows = new FountainRows();
        rows.source(1, 0, 8, 0);
        rows.source(1, 0, 1, 0);
        for (int x = 0; x < 22; x++) {
            Setup.send(rows, 0, x);
        }
        rows.image(0);
        int[] bytes = new int[9 + 3 * n];
        bytes[0] = 1;
        bytes[2] = 1;
        bytes[8] = n;
        for (int e = 0; e < n; e++) {
            bytes[9 + 3 * e + 1] = 100 + e;
        }
        for (int e : twice) {
            bytes[9 + 3 * e + 1] = 100;
        }
        Setup.writeImage(rows, bytes);
        return rows;
    }

    private static void beyondSixtyFourLeftOut() {
        Due.sentence("Part 3", "(what is ... beyond 64 is left out)");
        for (int n = 63; n <= 66; n++) {
            FountainRows rows = longImage(n);
            Due.due("rank", rows.resume(1), 1);
            Due.due("taken of " + n, rows.told(1, 1), Math.min(n, 64));
            Due.due("the last of " + n, rows.taken(1, Math.min(n, 64) - 1), 99 + Math.min(n, 64));
            Due.due("behind", rows.taken(1, Math.min(n, 64)), -1);
        }
    }

    private static void leftOutTakesNoRoom() {
        Due.sentence("Part 3", "(what is TWICE, CONTRARY, beyond 64 is left out)");
        FountainRows rows = longImage(66, 1, 40);
        Due.due("rank", rows.resume(1), 1);
        Due.due("taken", rows.told(1, 1), 64);
        Due.due("behind the first", rows.taken(1, 1), 102);
        Due.due("the last", rows.taken(1, 63), 165);
        Due.due("twice", rows.told(1, 8), 0);
    }
}
