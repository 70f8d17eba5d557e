/** Promises 18 to 22: a test for each sentence with an edge. */
public final class EdgesOfImagesTest {
    private static final int LOW = Setup.LOW;
    private static final int HIGH = Setup.HIGH;
    private static final int SEED = 6;

    public static void main(String[] args) {
        imageLengths();
        imageOfNoSource();
        refusedImageLeavesTheOneAtHand();
        imageOfItsTime();
        byteWithoutImage();
        byteOutside();
        setWithoutImage();
        setOutside();
        lowestByte();
        cutWithoutImage();
        cutToAll();
        cutToNone();
        cutOutside();
        cutTwice();
        resumeOfNoSource();
        resumeWithoutImage();
        resumeFaults();
        imageStays();
        resumeFull();
        refusedResumeLeavesTheReceiver();
        Due.end();
    }

    private static FountainRows oneTaken() {
        FountainRows rows = new FountainRows();
        rows.source(2, 1, 1, SEED);
        rows.symbol(0, 1, 0x55);
        Setup.send(rows, 0, 1);
        rows.image(0);
        return rows;
    }

    private static void imageLengths() {
        Due.sentence("Promise 18", "how many bytes it has");
        FountainRows rows = new FountainRows();
        int[] sizes = {1, 8};
        for (int s = 0; s < 2; s++) {
            rows.source(1, 0, sizes[s], SEED);
            Due.due("none taken", rows.image(s), 11);
            for (int n = 1; n <= 64; n++) {
                Setup.send(rows, s, n);
                Due.due("taken " + n, rows.image(s), 11 + n * (2 + sizes[s]));
            }
            Setup.send(rows, s, 65);
            Due.due("no more", rows.image(s), 11 + 64 * (2 + sizes[s]));
        }
    }

    private static void imageOfNoSource() {
        Due.sentence("Promise 18", "how many bytes it has. -1.");
        FountainRows rows = new FountainRows();
        Due.due("none at all", rows.image(0), -1);
        rows.source(1, 0, 1, SEED);
        for (int s : new int[] {-1, 1, 2, 3, 4, LOW, HIGH}) {
            Due.due("source " + s, rows.image(s), -1);
        }
        Due.due("still none", rows.imageByte(0), -1);
    }

    private static void refusedImageLeavesTheOneAtHand() {
        Due.sentence("Promise 18", "THE IMAGE at hand is that of a RECEIVER");
        FountainRows rows = oneTaken();
        rows.cut(13);
        rows.image(1);
        rows.image(-1);
        Due.due("its bytes", rows.imageByte(11), 0x55);
        Due.due("cut still", rows.cut(13), 13);
    }

    private static void imageOfItsTime() {
        Due.sentence("Promise 18", "THE IMAGE at hand is that of a RECEIVER");
        FountainRows rows = oneTaken();
        rows.source(1, 0, 8, 1);
        Setup.send(rows, 0, 0);
        Due.due("one in it", rows.imageByte(8), 1);
        Due.due("a longer one", rows.image(0), 17);
        Due.due("two in it", rows.imageByte(8), 2);
        Due.due("another's, shorter", rows.image(1), 11);
        Due.due("no bytes of before", rows.imageByte(11), -1);
        Due.due("its SIZE", rows.imageByte(2), 8);
    }

    private static void byteWithoutImage() {
        Due.sentence("Promise 19", "Byte i of THE IMAGE. -1.");
        FountainRows rows = new FountainRows();
        rows.source(1, 0, 1, SEED);
        for (int i : new int[] {0, 10, -1, 650, LOW, HIGH}) {
            Due.due("byte " + i, rows.imageByte(i), -1);
        }
    }

    private static void byteOutside() {
        Due.sentence("Promise 19", "-1");
        FountainRows rows = oneTaken();
        for (int i : new int[] {-1, 14, 15, 650, 651, LOW, HIGH}) {
            Due.due("byte " + i, rows.imageByte(i), -1);
        }
        Due.due("the first", rows.imageByte(0), 2);
        Due.due("the last", rows.imageByte(13) >= 0 ? 1 : 0, 1);
    }

    private static void setWithoutImage() {
        Due.sentence("Promise 20", "what it was. -1.");
        FountainRows rows = new FountainRows();
        rows.source(1, 0, 1, SEED);
        for (int i : new int[] {0, 10, -1, 650, LOW, HIGH}) {
            Due.due("byte " + i, rows.setByte(i, 1), -1);
        }
        Due.due("still none", rows.imageByte(0), -1);
    }

    private static void setOutside() {
        Due.sentence("Promise 20", "-1");
        FountainRows rows = oneTaken();
        for (int i : new int[] {-1, 14, 15, 650, 651, LOW, HIGH}) {
            Due.due("byte " + i, rows.setByte(i, 77), -1);
        }
        Due.due("length", rows.cut(14), 14);
        Due.due("right still", rows.resume(0), 2);
        Due.due("the first", rows.setByte(0, 77), 2);
        Due.due("the first then", rows.imageByte(0), 77);
        int last = rows.imageByte(13);
        Due.due("the last", rows.setByte(13, last ^ 1), last);
        Due.due("the last then", rows.imageByte(13), last ^ 1);
    }

    private static void lowestByte() {
        Due.sentence("Promise 20", "becomes b's lowest byte: what it was");
        FountainRows rows = oneTaken();
        int[] values = {0, 255, 256, -1, LOW, HIGH, -256, 0x1234};
        int was = 0x55;
        for (int b : values) {
            Due.due("set to " + b, rows.setByte(11, b), was);
            was = b & 255;
            Due.due("is, for " + b, rows.imageByte(11), was);
        }
    }

    private static void cutWithoutImage() {
        Due.sentence("Promise 21", "-2 n is below 0, or more");
        FountainRows rows = new FountainRows();
        rows.source(1, 0, 1, SEED);
        Due.due("to none", rows.cut(0), 0);
        for (int n : new int[] {1, 11, -1, LOW, HIGH}) {
            Due.due("to " + n, rows.cut(n), -2);
        }
    }

    private static void cutToAll() {
        Due.sentence("Promise 21", "how many it had");
        FountainRows rows = oneTaken();
        Due.due("all", rows.cut(14), 14);
        Due.due("right still", rows.resume(0), 2);
        Due.due("the last", rows.imageByte(13) >= 0 ? 1 : 0, 1);
    }

    private static void cutToNone() {
        Due.sentence("Promise 21", "THE IMAGE keeps its first n bytes");
        FountainRows rows = oneTaken();
        Due.due("to none", rows.cut(0), 14);
        Due.due("no byte", rows.imageByte(0), -1);
        Due.due("none to set", rows.setByte(0, 1), -1);
        Due.due("to none again", rows.cut(0), 0);
        Due.due("to one", rows.cut(1), -2);
        Due.due("a new one", rows.image(0), 14);
    }

    private static void cutOutside() {
        Due.sentence("Promise 21", "-2 n is below 0, or more");
        FountainRows rows = oneTaken();
        for (int n : new int[] {-1, 15, 16, 651, LOW, HIGH}) {
            Due.due("to " + n, rows.cut(n), -2);
        }
        Due.due("as long as it was", rows.cut(14), 14);
    }

    private static void cutTwice() {
        Due.sentence("Promise 21", "keeps its first n bytes: how many it had");
        FountainRows rows = oneTaken();
        Due.due("to 13", rows.cut(13), 14);
        Due.due("not to 14 again", rows.cut(14), -2);
        Due.due("byte 12", rows.imageByte(12) >= 0 ? 1 : 0, 1);
        Due.due("byte 13", rows.imageByte(13), -1);
        Due.due("to 1", rows.cut(1), 13);
        Due.due("the first stays", rows.imageByte(0), 2);
        Due.due("byte 1", rows.imageByte(1), -1);
    }

    private static void resumeOfNoSource() {
        Due.sentence("Promise 22", "its RANK. -1");
        FountainRows rows = oneTaken();
        for (int s : new int[] {-1, 1, 2, 3, 4, LOW, HIGH}) {
            Due.due("with an image, source " + s, rows.resume(s), -1);
        }
        rows.cut(0);
        Due.due("-1 before -11", rows.resume(1), -1);
    }

    private static void resumeWithoutImage() {
        Due.sentence("Promise 22", "-10 less a FAULT");
        FountainRows rows = new FountainRows();
        Due.due("without a source", rows.resume(0), -1);
        rows.source(1, 0, 1, SEED);
        Due.due("no bytes", rows.resume(0), -11);
    }

    private static void resumeFaults() {
        Due.sentence("Promise 22", "-1, -10 less a FAULT");
        FountainRows rows = oneTaken();
        Due.due("none", rows.resume(0), 2);
        rows.setByte(13, rows.imageByte(13) ^ 128);
        Due.due("4", rows.resume(0), -14);
        rows.cut(13);
        Due.due("3", rows.resume(0), -13);
        rows.setByte(3, 1);
        Due.due("2", rows.resume(0), -12);
        rows.cut(10);
        Due.due("1", rows.resume(0), -11);
    }

    private static void imageStays() {
        Due.sentence("Promise 22", "from THE IMAGE (which stays)");
        FountainRows rows = oneTaken();
        int[] before = new int[14];
        for (int i = 0; i < 14; i++) {
            before[i] = rows.imageByte(i);
        }
        Due.due("once", rows.resume(0), 2);
        for (int i = 0; i < 14; i++) {
            Due.due("byte " + i, rows.imageByte(i), before[i]);
        }
        Due.due("and again", rows.resume(0), 2);
        rows.setByte(13, before[13] ^ 1);
        rows.resume(0);
        Due.due("with its fault", rows.imageByte(13), before[13] ^ 1);
        Due.due("length", rows.cut(14), 14);
        rows.source(2, 1, 1, SEED);
        rows.setByte(13, before[13]);
        Due.due("by a source alike", rows.resume(1), 2);
        Due.due("known there", rows.known(1, 1), 0x55);
    }

    private static void resumeFull() {
        Due.sentence("Promise 22", "RESUMING a RECEIVER from THE IMAGE (which stays): its RANK");
        FountainRows rows = new FountainRows();
        rows.source(32, 8, 8, HIGH);
        for (int x = 0; x < 64; x++) {
            Setup.send(rows, 0, x);
        }
        Due.due("the longest", rows.image(0), 651);
        Due.due("rank", rows.resume(0), 40);
        Due.due("taken", rows.told(0, 1), 64);
        Due.due("the last", rows.taken(0, 63), 63);
        Due.due("full still", Setup.send(rows, 0, 64), -4);
        Due.due("twice still", Setup.send(rows, 0, 63), -6);
    }

    private static void refusedResumeLeavesTheReceiver() {
        Due.sentence("Promise 22", "-10 less a FAULT");
        int[] cuts = {10, 14, 13, 14};
        int[] altered = {0, 0, 9, 13};
        for (int fault = 1; fault <= 4; fault++) {
            FountainRows rows = oneTaken();
            Setup.send(rows, 0, 0);
            rows.cut(cuts[fault - 1]);
            int at = altered[fault - 1];
            rows.setByte(at, rows.imageByte(at) ^ 64);
            Due.due("fault " + fault, rows.resume(0), -10 - fault);
            Due.due("taken", rows.told(0, 1), 2);
            Due.due("rank", rows.told(0, 0), 3);
            Due.due("the last", rows.taken(0, 1), 0);
            Due.due("known", rows.known(0, 1), 0x55);
        }
    }
}
