/** Promises 18 to 22: what was received as bytes, altered, cut, and taken up again. */
public final class ImagesTest {
    private static final int LOW = Integer.MIN_VALUE;
    private static final int HIGH = Integer.MAX_VALUE;

    public static void main(String[] args) {
        noImage();
        images();
        setBytes();
        cuts();
        resumed();
        faultsInOrder();
        headFaults();
        lengthFaults();
        leftOut();
        beyondSixtyFour();
        fullImage();
        Due.end();
    }

    private static void noImage() {
        FountainRows rows = new FountainRows();
        for (int i : new int[] {0, -1, 11, LOW, HIGH}) {
            Due.due("19: none", rows.imageByte(i), -1);
            Due.due("20: none", rows.setByte(i, 1), -1);
        }
        Due.due("21: none", rows.cut(0), 0);
        Due.due("21: none", rows.cut(1), -2);
        Due.due("22: no source", rows.resume(0), -1);
        rows.source(1, 0, 1, 0);
        Due.due("22: no bytes", rows.resume(0), -11);
    }

    private static FountainRows twoTaken() {
        FountainRows rows = new FountainRows();
        rows.source(4, 2, 3, 0xF1E2D3C4);
        rows.symbol(0, 1, 0xA1B2C3);
        rows.symbol(0, 3, 7);
        Setup.send(rows, 0, 3);
        rows.frame(0, 1);
        rows.poke(0, 0xAB);
        rows.sign();
        rows.take();
        return rows;
    }

    private static void images() {
        FountainRows rows = twoTaken();
        Due.due("18: length", rows.image(0), 21);
        int[] want = {4, 2, 3, 0xF1, 0xE2, 0xD3, 0xC4, 0, 2, 0, 3, 0, 0, 7, 0xAB, 1, 0xA1, 0xB2, 0xC3};
        for (int i = 0; i < want.length; i++) {
            Due.due("19: byte " + i, rows.imageByte(i), want[i]);
        }
        int sum = Model.sumOf(want, 0, want.length);
        Due.due("18: sum, the higher", rows.imageByte(19), sum >> 8);
        Due.due("18: sum, the lower", rows.imageByte(20), sum & 255);
        Due.due("19: behind", rows.imageByte(21), -1);
        Due.due("19: before", rows.imageByte(-1), -1);
        Due.due("19: far", rows.imageByte(HIGH), -1);
        Due.due("18: no source", rows.image(1), -1);
        Due.due("18: no source", rows.image(-1), -1);
        Due.due("18: the image stays", rows.imageByte(8), 2);
        Setup.send(rows, 0, 0);
        Due.due("18: it is of its time", rows.imageByte(8), 2);
        Due.due("18: a new one", rows.image(0), 26);
        rows.source(1, 0, 1, 1);
        Due.due("18: a short one", rows.image(1), 11);
        Due.due("19: and no longer", rows.imageByte(11), -1);
    }

    private static void setBytes() {
        FountainRows rows = twoTaken();
        rows.image(0);
        Due.due("20: was", rows.setByte(3, 0x1FF), 0xF1);
        Due.due("20: lowest byte", rows.setByte(3, -2), 0xFF);
        Due.due("20: is", rows.imageByte(3), 0xFE);
        int last = rows.imageByte(20);
        Due.due("20: the last", rows.setByte(20, 0), last);
        for (int i : new int[] {-1, 21, 651, LOW, HIGH}) {
            Due.due("20: byte " + i, rows.setByte(i, 0), -1);
        }
        rows.image(0);
        Due.due("20: the receiver is as it was", rows.imageByte(3), 0xF1);
    }

    private static void cuts() {
        FountainRows rows = twoTaken();
        rows.image(0);
        for (int n : new int[] {-1, 22, LOW, HIGH}) {
            Due.due("21: cut " + n, rows.cut(n), -2);
        }
        Due.due("21: all", rows.cut(21), 21);
        Due.due("21: fewer", rows.cut(5), 21);
        Due.due("21: no longer there", rows.imageByte(5), -1);
        Due.due("21: not to be set", rows.setByte(5, 1), -1);
        Due.due("21: the first stay", rows.imageByte(4), 0xE2);
        Due.due("21: more", rows.cut(6), -2);
        Due.due("21: none", rows.cut(0), 5);
        Due.due("21: none", rows.cut(0), 0);
        Due.due("21: and anew", rows.image(0), 21);
    }

    private static void resumed() {
        FountainRows rows = twoTaken();
        rows.image(0);
        int rank = rows.told(0, 0);
        int inactive = rows.told(0, 5);
        Due.due("22: before", Setup.send(rows, 0, 2), rank + 1);
        Due.due("22: before", rows.take(), -6);
        rows.poke(2, 1);
        Due.due("22: before", rows.take(), -5);
        Due.due("22: before", rows.told(0, 5), inactive - 1);
        Due.due("22: rank", rows.resume(0), rank);
        Due.due("22: taken", rows.told(0, 1), 2);
        Due.due("22: first", rows.taken(0, 0), 3);
        Due.due("22: second", rows.taken(0, 1), 0xAB01);
        Due.due("22: no third", rows.taken(0, 2), -1);
        Due.due("22: known", rows.known(0, 3), 7);
        Due.due("22: no more known", rows.isKnown(0, 2), 0);
        Due.due("22: inactive again", rows.told(0, 5), inactive);
        Due.due("22: wrong stays", rows.told(0, 7), 1);
        Due.due("22: twice stays", rows.told(0, 8), 1);
        Due.due("22: the image stays", rows.imageByte(8), 2);
        Due.due("22: again", rows.resume(0), rank);
        Due.due("22: to be taken again", Setup.send(rows, 0, 2) > 0 ? 1 : 0, 1);
        Due.due("22: nothing new is twice", rows.told(0, 8), 1);
        rows.source(4, 2, 3, 0xF1E2D3C4);
        Due.due("22: a source alike", rows.resume(1), rank);
        Due.due("22: its own receiver", rows.told(1, 1), 2);
        Due.due("22: known there", rows.known(1, 3), 7);
        Due.due("22: not in the source", rows.part(1, 3), 0);
    }

    private static void faultsInOrder() {
        FountainRows rows = twoTaken();
        Due.due("22: no source", rows.resume(1), -1);
        rows.image(0);
        rows.setByte(20, rows.imageByte(20) ^ 1);
        Due.due("22: sum", rows.resume(0), -14);
        rows.setByte(8, 3);
        Due.due("22: length before sum", rows.resume(0), -13);
        rows.setByte(1, 3);
        Due.due("22: source before length", rows.resume(0), -12);
        rows.cut(11);
        Due.due("22: eleven bytes", rows.resume(0), -12);
        rows.cut(10);
        Due.due("22: ten bytes", rows.resume(0), -11);
        rows.cut(0);
        Due.due("22: no bytes", rows.resume(0), -11);
        Due.due("22: nothing changed", rows.told(0, 1), 2);
        rows.source(4, 2, 3, 1);
        rows.image(1);
        Due.due("22: eleven bytes of its own", rows.resume(1), 2);
        Due.due("22: another source's", rows.resume(0), -12);
    }

    private static void headFaults() {
        FountainRows rows = twoTaken();
        for (int i = 0; i < 7; i++) {
            rows.image(0);
            rows.setByte(i, rows.imageByte(i) ^ 128);
            Setup.signImage(rows, 21);
            Due.due("22: byte " + i, rows.resume(0), -12);
        }
        rows.image(0);
        for (int i = 9; i < 21; i++) {
            rows.setByte(i, rows.imageByte(i) ^ 1);
            Due.due("22: byte " + i, rows.resume(0), -14);
            rows.setByte(i, rows.imageByte(i) ^ 1);
        }
        Due.due("22: right again", rows.resume(0), rows.told(0, 0));
    }

    private static void lengthFaults() {
        FountainRows rows = twoTaken();
        for (int n = 11; n < 21; n++) {
            rows.image(0);
            rows.cut(n);
            Due.due("22: length " + n, rows.resume(0), -13);
        }
        rows.image(0);
        rows.setByte(7, 255);
        rows.setByte(8, 255);
        Due.due("22: 65535 of them", rows.resume(0), -13);
        rows.image(0);
        rows.cut(16);
        rows.setByte(8, 1);
        Due.due("22: one, without its sum", rows.resume(0), -14);
        Setup.signImage(rows, 16);
        Due.due("22: one", rows.resume(0), 3);
        Due.due("22: one is taken", rows.told(0, 1), 1);
        rows.cut(11);
        rows.setByte(8, 0);
        Setup.signImage(rows, 11);
        Due.due("22: none", rows.resume(0), 2);
        Due.due("22: none is taken", rows.told(0, 1), 0);
    }

    /** What is twice or contrary in an image is left out, and not counted. */
    private static void leftOut() {
        FountainRows rows = new FountainRows();
        rows.source(4, 0, 1, 9);
        for (int x = 0; x < 4; x++) {
            rows.symbol(0, x, 10 + x);
            Setup.send(rows, 0, x);
        }
        Setup.send(rows, 0, 40);
        rows.image(0);
        rows.setByte(11 + 3 * 4, rows.imageByte(11 + 3 * 4) ^ 32);
        Setup.signImage(rows, 26);
        Due.due("22: rank", rows.resume(0), 4);
        Due.due("22: contrary is left out", rows.told(0, 1), 4);
        Due.due("22: the fourth is the last", rows.taken(0, 3), 3);
        Setup.send(rows, 0, 40);
        rows.image(0);
        rows.setByte(10 + 3 * 2, 1);
        rows.setByte(11 + 3 * 2, 99);
        Setup.signImage(rows, 26);
        Due.due("22: rank without part 2", rows.resume(0), 3 + (rows.row(0, 40) >> 2 & 1));
        Due.due("22: twice is left out", rows.told(0, 1), 4);
        Due.due("22: the first of both", rows.known(0, 1), 11);
        Due.due("22: the next follows", rows.taken(0, 2), 3);
        Due.due("22: no twice counted", rows.told(0, 8), 0);
        Due.due("22: no contrary counted", rows.told(0, 9), 0);
    }

    /** A longer image becomes, byte by byte, one of 65 that say nothing contrary. */
    private static void beyondSixtyFour() {
        FountainRows rows = new FountainRows();
        rows.source(3, 1, 8, 5);
        rows.source(3, 1, 1, 5);
        for (int x = 0; x < 20; x++) {
            Setup.send(rows, 0, 1000 + x);
        }
        Due.due("18: 20 of 8 bytes", rows.image(0), 211);
        rows.cut(206);
        int[] bytes = new int[206];
        int[] head = {3, 1, 1, 0, 0, 0, 5, 0, 65};
        System.arraycopy(head, 0, bytes, 0, 9);
        for (int n = 0; n < 65; n++) {
            bytes[9 + 3 * n + 1] = 100 + n;
        }
        int sum = Model.sumOf(bytes, 0, 204);
        bytes[204] = sum >> 8;
        bytes[205] = sum & 255;
        for (int i = 0; i < 206; i++) {
            rows.setByte(i, bytes[i]);
        }
        Due.due("22: 65 of them", rows.resume(1), 4);
        Due.due("22: 64 are taken", rows.told(1, 1), 64);
        Due.due("22: the last", rows.taken(1, 63), 163);
    }

    private static void fullImage() {
        FountainRows rows = new FountainRows();
        rows.source(32, 8, 8, HIGH);
        rows.symbol(0, 31, LOW);
        for (int x = 0; x < 64; x++) {
            Setup.send(rows, 0, x + 65000);
        }
        int rank = rows.told(0, 0);
        Due.due("18: the longest", rows.image(0), 651);
        Due.due("19: its last", rows.imageByte(650) >= 0 ? 1 : 0, 1);
        Due.due("19: behind", rows.imageByte(651), -1);
        Due.due("22: taken up again", rows.resume(0), rank);
        Due.due("22: all", rows.told(0, 1), 64);
        Due.due("22: the last", rows.taken(0, 63), 65063);
    }
}
