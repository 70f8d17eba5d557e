/** Promises 8 to 12: a test for each sentence with an edge. */
public final class EdgesOfFramesTest {
    private static final int LOW = Setup.LOW;
    private static final int HIGH = Setup.HIGH;
    private static final int SEED = 6;

    public static void main(String[] args) {
        lengths();
        frameOfNoSource();
        frameNumberOutside();
        frameRefusalsInOrder();
        refusedFrameLeavesTheOneAtHand();
        frameByteWithoutFrame();
        frameByteOutside();
        pokeWithoutFrame();
        pokeOutside();
        lowestByteOfMask();
        signWithoutFrame();
        signedAsItIsNow();
        takeWithoutFrame();
        takeWrong();
        takeTwice();
        takeFull();
        takeContrary();
        takeRefusalsInOrder();
        takeRefusalsInOrderWhenFull();
        frameStays();
        receiverOfItsSource();
        Due.end();
    }

    private static FountainRows oneSource(int size) {
        FountainRows rows = new FountainRows();
        rows.source(2, 1, size, SEED);
        return rows;
    }

    private static FountainRows fullReceiver() {
        FountainRows rows = new FountainRows();
        rows.source(1, 0, 1, SEED);
        rows.symbol(0, 0, 3);
        for (int x = 0; x < 64; x++) {
            Setup.send(rows, 0, x);
        }
        return rows;
    }

    private static void lengths() {
        Due.sentence("Promise 8", "how many bytes it has");
        for (int size = 1; size <= 8; size++) {
            FountainRows rows = oneSource(size);
            Due.due("least number, " + size, rows.frame(0, 0), size + 4);
            Due.due("greatest number, " + size, rows.frame(0, 65535), size + 4);
            Due.due("the last byte", rows.frameByte(size + 3) >= 0 ? 1 : 0, 1);
            Due.due("behind", rows.frameByte(size + 4), -1);
        }
    }

    private static void frameOfNoSource() {
        Due.sentence("Promise 8", "how many bytes it has. -1, -2.");
        FountainRows rows = oneSource(1);
        for (int s : new int[] {-1, 1, 2, 3, 4, LOW, HIGH}) {
            Due.due("source " + s, rows.frame(s, 0), -1);
        }
        Due.due("still none", rows.take(), -3);
    }

    private static void frameNumberOutside() {
        Due.sentence("Promise 8", "THE FRAME at hand is that of a number: ... -2");
        FountainRows rows = oneSource(1);
        for (int x : new int[] {-1, 65536, -65536, 131072, LOW, HIGH}) {
            Due.due("x " + x, rows.frame(0, x), -2);
        }
        Due.due("still none", rows.frameByte(0), -3);
        Due.due("the least", rows.frame(0, 0), 5);
        Due.due("the greatest", rows.frame(0, 65535), 5);
    }

    private static void frameRefusalsInOrder() {
        Due.sentence("Promise 8", "-1, -2");
        FountainRows rows = oneSource(1);
        for (int s : new int[] {-1, 1, 4}) {
            Due.due("too small as well", rows.frame(s, -1), -1);
            Due.due("too large as well", rows.frame(s, 65536), -1);
        }
    }

    private static void refusedFrameLeavesTheOneAtHand() {
        Due.sentence("Promise 8", "THE FRAME at hand is that of a number");
        FountainRows rows = oneSource(1);
        rows.source(2, 0, 4, SEED);
        rows.frame(0, 513);
        int[] before = new int[5];
        for (int i = 0; i < 5; i++) {
            before[i] = rows.frameByte(i);
        }
        rows.frame(2, 1);
        rows.frame(1, -1);
        rows.frame(1, 65536);
        for (int i = 0; i < 5; i++) {
            Due.due("byte " + i, rows.frameByte(i), before[i]);
        }
        Due.due("behind", rows.frameByte(5), -1);
        rows.take();
        Due.due("taken by its receiver", rows.taken(0, 0), 513);
        Due.due("not by the other", rows.taken(1, 0), -1);
    }

    private static void frameByteWithoutFrame() {
        Due.sentence("Promise 9", "-3 there is none");
        FountainRows rows = new FountainRows();
        for (int i : new int[] {0, 4, -1, 12, LOW, HIGH}) {
            Due.due("new, byte " + i, rows.frameByte(i), -3);
        }
        rows.source(1, 0, 8, 0);
        rows.frame(0, -1);
        for (int i : new int[] {0, 11, -1, 12, LOW, HIGH}) {
            Due.due("with a source, byte " + i, rows.frameByte(i), -3);
        }
    }

    private static void frameByteOutside() {
        Due.sentence("Promise 9", "Byte i of THE FRAME. -3 there is none, -1.");
        for (int size = 1; size <= 8; size++) {
            FountainRows rows = oneSource(size);
            rows.source(1, 0, 8, 0);
            rows.frame(1, 0);
            rows.frame(0, 65535);
            for (int i : new int[] {-1, size + 4, 12, 13, LOW, HIGH}) {
                Due.due("byte " + i + " of size " + size, rows.frameByte(i), -1);
            }
            Due.due("the first", rows.frameByte(0), 255);
            Due.due("the last", rows.frameByte(size + 3) >= 0 ? 1 : 0, 1);
        }
    }

    private static void pokeWithoutFrame() {
        Due.sentence("Promise 10", "-3, -1");
        FountainRows rows = new FountainRows();
        rows.source(1, 0, 8, 0);
        for (int i : new int[] {0, 11, -1, 12, LOW, HIGH}) {
            Due.due("byte " + i, rows.poke(i, 1), -3);
        }
        rows.frame(0, 0);
        Due.due("the first", rows.frameByte(0), 0);
        Due.due("of zeros", rows.sign(), 57657);
    }

    private static void pokeOutside() {
        Due.sentence("Promise 10", "what it is then. -3, -1.");
        for (int size = 1; size <= 8; size += 7) {
            FountainRows rows = oneSource(size);
            rows.frame(0, 0);
            for (int i : new int[] {-1, size + 4, 13, LOW, HIGH}) {
                Due.due("byte " + i + " of size " + size, rows.poke(i, 255), -1);
            }
            Due.due("right still", rows.take(), 2);
            Due.due("the first", rows.poke(0, 7), 7);
            int last = rows.frameByte(size + 3);
            Due.due("the last", rows.poke(size + 3, 7), last ^ 7);
            Due.due("stays", rows.frameByte(size + 3), last ^ 7);
        }
    }

    private static void lowestByteOfMask() {
        Due.sentence("Promise 10", "becomes its ^ with mask's lowest byte: what it is then");
        FountainRows rows = oneSource(1);
        rows.symbol(0, 0, 0x3C);
        rows.frame(0, 0);
        int[] masks = {0, 256, LOW, 255, -1, HIGH, -256, 0x1234};
        int now = 0x3C;
        for (int mask : masks) {
            now ^= mask & 255;
            Due.due("mask " + mask, rows.poke(2, mask), now);
            Due.due("byte", rows.frameByte(2), now);
        }
    }

    private static void signWithoutFrame() {
        Due.sentence("Promise 11", "that. -3.");
        FountainRows rows = new FountainRows();
        Due.due("new", rows.sign(), -3);
        rows.source(1, 0, 1, 0);
        rows.image(0);
        rows.frame(1, 0);
        Due.due("with a source and an image", rows.sign(), -3);
    }

    private static void signedAsItIsNow() {
        Due.sentence("Promise 11", "THE FRAME gets the SUM that its bytes have now: that");
        FountainRows rows = new FountainRows();
        rows.source(1, 0, 7, 0);
        rows.frame(0, 0);
        int first = rows.sign();
        Due.due("as it was", rows.frameByte(9) * 256 + rows.frameByte(10), first);
        for (int i = 0; i < 9; i++) {
            rows.poke(i, '1' + i);
        }
        Due.due("123456789", rows.sign(), 0x29B1);
        rows.poke(9, 255);
        rows.poke(10, 255);
        Due.due("without the SUM's own", rows.sign(), 0x29B1);
        Due.due("the higher", rows.frameByte(9), 0x29);
        Due.due("the lower", rows.frameByte(10), 0xB1);
        Due.due("no longer", rows.frameByte(11), -1);
    }

    private static void takeWithoutFrame() {
        Due.sentence("Promise 12", "its RANK then. -3");
        FountainRows rows = new FountainRows();
        Due.due("new", rows.take(), -3);
        rows.source(1, 0, 1, 0);
        rows.frame(0, -1);
        Due.due("with a source", rows.take(), -3);
        for (int what = 7; what <= 9; what++) {
            Due.due("not counted, " + what, rows.told(0, what), 0);
        }
    }

    private static void takeWrong() {
        Due.sentence("Promise 12", "-5");
        FountainRows rows = oneSource(8);
        rows.frame(0, 1);
        for (int i = 0; i < 12; i++) {
            rows.poke(i, 255);
            Due.due("byte " + i, rows.take(), -5);
            rows.poke(i, 255);
        }
        Due.due("right", rows.take(), 2);
        Due.due("wrong", rows.told(0, 7), 12);
    }

    private static void takeTwice() {
        Due.sentence("Promise 12", "-6");
        FountainRows rows = oneSource(1);
        for (int x : new int[] {0, 65535, 300}) {
            Setup.send(rows, 0, x);
            Due.due("at once, " + x, rows.take(), -6);
        }
        for (int x : new int[] {65535, 0, 300}) {
            Due.due("later, " + x, Setup.send(rows, 0, x), -6);
        }
        Due.due("twice", rows.told(0, 8), 6);
        Due.due("taken", rows.told(0, 1), 3);
    }

    private static void takeFull() {
        Due.sentence("Promise 12", "-4 it has TAKEN 64");
        FountainRows rows = new FountainRows();
        rows.source(1, 0, 1, SEED);
        for (int x = 0; x < 63; x++) {
            Setup.send(rows, 0, x);
        }
        Due.due("the 64th", Setup.send(rows, 0, 1000), 1);
        Due.due("the 65th", Setup.send(rows, 0, 1001), -4);
        Due.due("and again", rows.take(), -4);
        Due.due("taken", rows.told(0, 1), 64);
        Due.due("the last", rows.taken(0, 63), 1000);
        Due.due("none behind", rows.taken(0, 64), -1);
        for (int what = 7; what <= 9; what++) {
            Due.due("not counted, " + what, rows.told(0, what), 0);
        }
        rows.source(1, 0, 1, SEED);
        Due.due("another has room", Setup.send(rows, 1, 1001), 1);
    }

    private static void takeContrary() {
        Due.sentence("Promise 12", "-7");
        FountainRows rows = new FountainRows();
        rows.source(1, 0, 1, SEED);
        Setup.give(rows, 0, 0, 1);
        Due.due("another byte", Setup.give(rows, 0, 1, 0), -7);
        Due.due("again", rows.take(), -7);
        Due.due("contrary", rows.told(0, 9), 2);
        Due.due("the same byte", Setup.give(rows, 0, 1, 1), 1);
    }

    private static void takeRefusalsInOrder() {
        Due.sentence("Promise 12", "-3, -5, -6, -4 it has TAKEN 64, -7");
        FountainRows rows = new FountainRows();
        rows.source(1, 0, 1, SEED);
        Setup.give(rows, 0, 0, 1);
        rows.frame(0, 0);
        rows.poke(2, 9);
        Due.due("-5 before -6 and -7", rows.take(), -5);
        rows.sign();
        Due.due("-6 before -7", rows.take(), -6);
        rows.frame(0, 1);
        rows.poke(2, 9);
        Due.due("-5 before -7", rows.take(), -5);
        rows.sign();
        Due.due("-7", rows.take(), -7);
        Due.due("wrong", rows.told(0, 7), 2);
        Due.due("twice", rows.told(0, 8), 1);
        Due.due("contrary", rows.told(0, 9), 1);
    }

    private static void takeRefusalsInOrderWhenFull() {
        Due.sentence("Promise 12", "-5, -6, -4 it has TAKEN 64, -7");
        FountainRows rows = fullReceiver();
        rows.frame(0, 63);
        Due.due("-6 before -4", rows.take(), -6);
        rows.poke(2, 1);
        Due.due("-5 before -6, -4 and -7", rows.take(), -5);
        rows.sign();
        Due.due("-6 before -4 and -7", rows.take(), -6);
        rows.frame(0, 64);
        rows.poke(2, 1);
        Due.due("-5 before -4 and -7", rows.take(), -5);
        rows.sign();
        Due.due("-4 before -7", rows.take(), -4);
        Due.due("wrong", rows.told(0, 7), 2);
        Due.due("twice", rows.told(0, 8), 2);
        Due.due("contrary", rows.told(0, 9), 0);
    }

    private static void frameStays() {
        Due.sentence("Promise 12", "gets THE FRAME (which stays)");
        FountainRows rows = oneSource(2);
        rows.symbol(0, 1, 0x1234);
        rows.frame(0, 1);
        rows.take();
        int[] want = {0, 1, 0x12, 0x34};
        for (int i = 0; i < 4; i++) {
            Due.due("byte " + i, rows.frameByte(i), want[i]);
        }
        Due.due("to be taken again", rows.take(), -6);
        Due.due("to be altered", rows.poke(1, 1), 0);
        rows.sign();
        Due.due("and taken", rows.take(), 3);
        Due.due("as 0", rows.known(0, 0), 0x1234);
    }

    private static void receiverOfItsSource() {
        Due.sentence("Promise 12", "The RECEIVER of its SOURCE gets THE FRAME");
        FountainRows rows = new FountainRows();
        for (int s = 0; s < 4; s++) {
            rows.source(1, 0, 1, SEED);
        }
        for (int s : new int[] {3, 0, 2, 1}) {
            rows.frame(s, 100 + s);
            for (int t = 0; t < 4; t++) {
                rows.told(t, 0);
            }
            Due.due("taken, " + s, rows.take(), 1);
            Due.due("there, " + s, rows.taken(s, 0), 100 + s);
            Due.due("alone, " + s, rows.told(s, 1), 1);
        }
    }
}
