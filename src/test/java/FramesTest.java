/** Promises 8 to 12: the frame at hand, altered, signed, and taken. */
public final class FramesTest {
    private static final int LOW = Integer.MIN_VALUE;
    private static final int HIGH = Integer.MAX_VALUE;

    public static void main(String[] args) {
        frames();
        outputsAndRefusals();
        frameBytes();
        pokes();
        signs();
        takes();
        alteredNumbers();
        contraries();
        fullReceiver();
        ranks();
        Due.end();
    }

    private static void frames() {
        FountainRows rows = new FountainRows();
        for (int size = 1; size <= 4; size++) {
            int s = rows.source(3, 1, 2 * size, 8);
            Due.due("8: length", rows.frame(s, 0), 2 * size + 4);
            Due.due("8: length", rows.frame(s, 65535), 2 * size + 4);
            Due.due("8: x, the higher", rows.frameByte(0), 255);
            Due.due("8: x, the lower", rows.frameByte(1), 255);
        }
        rows.symbol(0, 2, 0xABCD);
        rows.frame(0, 2);
        int[] want = {0, 2, 0xAB, 0xCD};
        for (int i = 0; i < 4; i++) {
            Due.due("8: byte " + i, rows.frameByte(i), want[i]);
        }
        int sum = Model.sumOf(want, 0, 4);
        Due.due("8: sum, the higher", rows.frameByte(4), sum >> 8);
        Due.due("8: sum, the lower", rows.frameByte(5), sum & 255);
        rows.frame(0, 0x1234);
        Due.due("8: x, the higher", rows.frameByte(0), 0x12);
        Due.due("8: x, the lower", rows.frameByte(1), 0x34);
    }

    /** An output is the ^ of its parts, the sums among them; a refused frame leaves the one at hand. */
    private static void outputsAndRefusals() {
        FountainRows rows = new FountainRows();
        rows.source(4, 3, 1, 31);
        for (int i = 0; i < 4; i++) {
            rows.symbol(0, i, 17 * (i + 1));
        }
        for (int x = 4; x < 40; x++) {
            long want = 0;
            for (int i = 0; i < 7; i++) {
                want ^= (rows.row(0, x) >> i & 1) == 1 ? rows.part(0, i) : 0;
            }
            rows.frame(0, x);
            Due.due("8: output " + x, rows.frameByte(2), want);
        }
        Due.due("8: no source", rows.frame(1, 0), -1);
        Due.due("8: no source", rows.frame(-1, 0), -1);
        for (int x : new int[] {-1, 65536, LOW, HIGH}) {
            Due.due("8: x " + x, rows.frame(0, x), -2);
            Due.due("8: -1 before -2", rows.frame(4, x), -1);
        }
        Due.due("8: the frame stayed", rows.frameByte(1), 39);
    }

    private static void frameBytes() {
        FountainRows rows = new FountainRows();
        Due.due("9: none", rows.frameByte(0), -3);
        Due.due("9: -3 before -1", rows.frameByte(-1), -3);
        rows.source(1, 0, 3, 0);
        Due.due("9: none yet", rows.frameByte(0), -3);
        rows.frame(0, 0);
        for (int i : new int[] {-1, 7, 12, LOW, HIGH}) {
            Due.due("9: byte " + i, rows.frameByte(i), -1);
        }
        rows.source(1, 0, 8, 0);
        rows.frame(1, 0);
        Due.due("9: byte 12", rows.frameByte(12), -1);
        Due.due("9: byte 9", rows.frameByte(9), 0);
        rows.frame(0, 0);
        Due.due("9: a shorter one", rows.frameByte(7), -1);
    }

    private static void pokes() {
        FountainRows rows = new FountainRows();
        Due.due("10: none", rows.poke(-1, 1), -3);
        rows.source(2, 0, 2, 3);
        rows.symbol(0, 1, 0xF00F);
        rows.frame(0, 1);
        Due.due("10: mask", rows.poke(2, 0x0F), 0xFF);
        Due.due("10: lowest byte", rows.poke(2, 0x7FFFFF01), 0xFE);
        Due.due("10: of -1", rows.poke(2, -1), 0x01);
        Due.due("10: 256", rows.poke(2, 256), 0x01);
        Due.due("10: kept", rows.frameByte(2), 0x01);
        Due.due("10: next", rows.frameByte(3), 0x0F);
        for (int i : new int[] {-1, 6, LOW, HIGH}) {
            Due.due("10: byte " + i, rows.poke(i, 1), -1);
        }
        int last = rows.frameByte(5);
        Due.due("10: the sum too", rows.poke(5, 128), last ^ 128);
        Due.due("10: the source stays", rows.part(0, 1), 0xF00F);
        rows.frame(0, 1);
        Due.due("10: a new frame", rows.frameByte(2), 0xF0);
    }

    private static void signs() {
        FountainRows rows = new FountainRows();
        Due.due("11: none", rows.sign(), -3);
        rows.source(1, 0, 7, 3);
        rows.frame(0, 0);
        for (int i = 0; i < 9; i++) {
            rows.poke(i, '1' + i);
        }
        // The sum of "123456789" that is told for this kind of sum everywhere.
        Due.due("11: sign", rows.sign(), 0x29B1);
        Due.due("11: the higher", rows.frameByte(9), 0x29);
        Due.due("11: the lower", rows.frameByte(10), 0xB1);
        Due.due("11: length", rows.frameByte(11), -1);
        rows.poke(10, 255);
        Due.due("11: the sum's own bytes do not count", rows.sign(), 0x29B1);
        Due.due("11: put right", rows.frameByte(10), 0xB1);
    }

    private static void takes() {
        FountainRows rows = new FountainRows();
        Due.due("12: none", rows.take(), -3);
        rows.source(3, 1, 2, 6);
        rows.source(3, 1, 2, 6);
        Due.due("12: none yet", rows.take(), -3);
        rows.symbol(0, 0, 500);
        rows.frame(0, 0);
        for (int i = 0; i < 6; i++) {
            rows.poke(i, 64);
            Due.due("12: wrong, byte " + i, rows.take(), -5);
            Due.due("12: counted", rows.told(0, 7), i + 1);
            rows.poke(i, 64);
        }
        Due.due("12: nothing taken", rows.told(0, 1), 0);
        Due.due("12: taken", rows.take(), 2);
        Due.due("12: the frame stays", rows.frameByte(2), 1);
        Due.due("12: twice", rows.take(), -6);
        rows.poke(3, 1);
        Due.due("12: -5 before -6", rows.take(), -5);
        rows.sign();
        Due.due("12: -6 before -7", rows.take(), -6);
        Due.due("12: wrong", rows.told(0, 7), 7);
        Due.due("12: twice", rows.told(0, 8), 2);
        Due.due("12: contrary", rows.told(0, 9), 0);
        Due.due("12: another source's receiver", rows.told(1, 1), 0);
        Due.due("12: and its counts", rows.told(1, 7) + rows.told(1, 8), 0);
        Due.due("12: of its source", Setup.send(rows, 1, 0), 2);
        rows.frame(0, -1);
        Due.due("12: the frame of before", rows.take(), -6);
        Due.due("12: is source 1's", rows.told(1, 8), 1);
    }

    /** x is what the frame's bytes say when it is taken. */
    private static void alteredNumbers() {
        FountainRows rows = new FountainRows();
        rows.source(4, 0, 1, 6);
        rows.symbol(0, 2, 77);
        rows.frame(0, 2);
        rows.poke(1, 1);
        rows.sign();
        Due.due("12: taken as 3", rows.take(), 1);
        Due.due("12: number 3", rows.taken(0, 0), 3);
        Due.due("12: part 3 is known", rows.known(0, 3), 77);
        Due.due("12: part 2 is not", rows.isKnown(0, 2), 0);
        rows.poke(0, 255);
        rows.sign();
        rows.take();
        Due.due("12: number 65283", rows.taken(0, 1), 65283);
    }

    private static void contraries() {
        FountainRows rows = new FountainRows();
        Setup.onlyDegree(rows, 2);
        rows.source(3, 0, 1, 6);
        rows.symbol(0, 0, 1);
        rows.symbol(0, 1, 2);
        rows.symbol(0, 2, 4);
        Setup.send(rows, 0, Setup.pair(3, 6, 0, 1));
        Due.due("12: two pairs", Setup.send(rows, 0, Setup.pair(3, 6, 1, 2)), 2);
        rows.frame(0, Setup.pair(3, 6, 0, 2));
        rows.poke(2, 8);
        rows.sign();
        Due.due("12: contrary", rows.take(), -7);
        Due.due("12: contrary again", rows.take(), -7);
        Due.due("12: counted", rows.told(0, 9), 2);
        Due.due("12: not taken", rows.told(0, 1), 2);
        rows.poke(2, 8);
        rows.sign();
        Due.due("12: not contrary, nothing new", rows.take(), 2);
        Due.due("12: but taken", rows.told(0, 1), 3);
        Due.due("12: and then twice", rows.take(), -6);
        rows.frame(0, 0);
        rows.poke(2, 16);
        rows.sign();
        Due.due("12: altered, but not contrary", rows.take(), 3);
        Due.due("12: part 0", rows.known(0, 0), 17);
        Due.due("12: part 1", rows.known(0, 1), 18);
        Due.due("12: part 2", rows.known(0, 2), 20);
    }

    private static void fullReceiver() {
        FountainRows rows = new FountainRows();
        rows.source(2, 1, 1, 6);
        rows.symbol(0, 1, 3);
        for (int x = 0; x < 64; x++) {
            Due.due("12: room for " + x, Setup.send(rows, 0, x) > 0 ? 1 : 0, 1);
        }
        rows.frame(0, 64);
        Due.due("12: 64 taken", rows.take(), -4);
        rows.poke(2, 1);
        Due.due("12: -5 before -4", rows.take(), -5);
        rows.sign();
        Due.due("12: -4 before -7", rows.take(), -4);
        rows.frame(0, 63);
        Due.due("12: -6 before -4", rows.take(), -6);
        Due.due("12: taken", rows.told(0, 1), 64);
        Due.due("12: wrong", rows.told(0, 7), 1);
        Due.due("12: twice", rows.told(0, 8), 1);
        Due.due("12: contrary", rows.told(0, 9), 0);
        Due.due("12: the last", rows.taken(0, 63), 63);
        Due.due("12: no more", rows.taken(0, 64), -1);
    }

    private static void ranks() {
        FountainRows rows = new FountainRows();
        rows.source(32, 8, 8, 12345);
        for (int x = 0; x < 32; x++) {
            Due.due("12: rank", Setup.send(rows, 0, x), 9 + x);
        }
        for (int x = 32; x < 64; x++) {
            Due.due("12: rank stays", Setup.send(rows, 0, x), 40);
        }
    }
}
