/**
 * The Terms and their part 1: a test for each sentence with an edge. The numbers were worked out
 * outside of Java from the document's words.
 */
public final class EdgesOfPart1Test {
    public static void main(String[] args) {
        drawingWraps();
        drawnZerosComeIn();
        sumStartsAt65535();
        sumKeepsSixteenBits();
        tableOfTwelve();
        sumOfAllWeights();
        fourSources();
        symbolsAtFirst();
        tableOfItsTime();
        partNumbers();
        sumsStartWraps();
        sumOfNone();
        numbersUpTo65535();
        numbersBelowK();
        rowsStartWraps();
        degreeAboveT();
        degreesOfWeightZero();
        degreeAtMostAll();
        partsThatAreThere();
        behindTheLastTheFirst();
        outputOfAllParts();
        frameBytes();
        Due.end();
    }

    private static void onlyWeights(FountainRows rows, int... weights) {
        for (int d = 1; d <= 12; d++) {
            rows.degree(d, d <= weights.length ? weights[d - 1] : 0);
        }
    }

    /** The seed less 40503 is where the drawing for the first sum starts. */
    private static void drawingWraps() {
        Due.sentence("Terms", "z (32 bits): z becomes z * 1664525 + 1013904223");
        int[] starts = {0, 1, -1, Setup.HIGH, Setup.LOW};
        long[] want = {205111212L, 1712173772L, 4219040760L, 75926535L, 4089856083L};
        for (int n = 0; n < starts.length; n++) {
            FountainRows rows = new FountainRows();
            rows.source(32, 1, 1, starts[n] - 40503);
            Due.due("from " + starts[n], rows.sumRow(0, 0), want[n]);
        }
    }

    /** Parts are drawn from z with its highest bit for 6, 7, 11, 12, 15, 16 and 19. */
    private static void drawnZerosComeIn() {
        Due.sentence("Terms", "what is drawn is z, moved right by 1, zeros coming in");
        FountainRows rows = new FountainRows();
        onlyWeights(rows, 1);
        rows.source(5, 2, 1, 0);
        int[] want = {8, 16, 4, 2, 64, 32, 32, 16, 4, 2, 2, 1, 32, 16, 16};
        for (int x = 5; x < 20; x++) {
            Due.due("row of " + x, rows.row(0, x), want[x - 5]);
        }
        FountainRows three = new FountainRows();
        onlyWeights(three, 1, 1, 1);
        three.source(5, 2, 1, 0);
        int[] degrees = {3, 2, 2, 3, 3, 2, 1, 3, 3};
        for (int x = 5; x < 14; x++) {
            Due.due("degree of " + x, Long.bitCount(three.row(0, x)), degrees[x - 5]);
        }
    }

    private static void sumStartsAt65535() {
        Due.sentence("Terms", "SUM of bytes: 16 bits, 65535 at first");
        FountainRows rows = new FountainRows();
        rows.source(1, 0, 1, 0);
        rows.source(1, 0, 8, 0);
        rows.frame(0, 0);
        Due.due("three 0s", rows.sign(), 52380);
        rows.frame(1, 0);
        Due.due("ten 0s", rows.sign(), 57657);
    }

    private static void sumKeepsSixteenBits() {
        Due.sentence("Terms", "if a bit goes out at the top, its ^ with 4129 (16 bits)");
        FountainRows rows = new FountainRows();
        rows.source(1, 0, 1, 0);
        rows.source(1, 0, 8, 0);
        rows.symbol(0, 0, 0x80);
        rows.frame(0, 0);
        Due.due("the highest bit alone", rows.sign(), 23828);
        rows.symbol(0, 0, 255);
        rows.frame(0, 65535);
        Due.due("three of 255", rows.sign(), 7920);
        rows.symbol(1, 0, -1);
        rows.frame(1, 65535);
        Due.due("ten of 255", rows.sign(), 42721);
        Due.due("the higher", rows.frameByte(10), 42721 >> 8);
        Due.due("the lower", rows.frameByte(11), 42721 & 255);
    }

    private static void tableOfTwelve() {
        Due.sentence("Terms", "THE TABLE has a WEIGHT (0 to 100) for each DEGREE 1 .. 12");
        FountainRows rows = new FountainRows();
        for (int d = 1; d <= 12; d++) {
            Due.due("to 100: " + d, rows.degree(d, 100) >= 0 ? 1 : 0, 1);
            Due.due("to 0: " + d, rows.degree(d, 0), 100);
            Due.due("was 0: " + d, rows.degree(d, 100), 0);
        }
        Due.due("before the first", rows.degree(0, 1), -1);
        Due.due("behind the last", rows.degree(13, 1), -1);
    }

    /** 1200 at most: the least and the greatest t of the first, the second and the last degree. */
    private static void sumOfAllWeights() {
        Due.sentence("Terms", "T is their sum");
        FountainRows rows = new FountainRows();
        onlyWeights(rows, 100, 100, 100, 100, 100, 100, 100, 100, 100, 100, 100, 100);
        rows.source(32, 8, 1, 0);
        Due.due("t is 0", rows.row(0, 579), 8388608L);
        Due.due("t is 99", rows.row(0, 661), 274877906944L);
        Due.due("t is 100", rows.row(0, 571), 137438953480L);
        Due.due("t is 199", rows.row(0, 653), 262400L);
        Due.due("t is 1099", rows.row(0, 264), 28471292032L);
        Due.due("t is 1100", rows.row(0, 1230), 4029155471L);
        Due.due("t is 1199", rows.row(0, 1312), 121366934081L);
    }

    private static void fourSources() {
        Due.sentence("Part 1", "SOURCES, numbered from 0 on (4 at most)");
        FountainRows rows = new FountainRows();
        for (int s = 0; s < 4; s++) {
            Due.due("not there yet: " + s, rows.row(s, 0), -1);
            Due.due("comes: " + s, rows.source(1, 0, 1, s), s);
            Due.due("there: " + s, rows.row(s, 0), 1);
        }
        Due.due("a fifth", rows.source(1, 0, 1, 4), -4);
        Due.due("not there", rows.row(4, 0), -1);
    }

    private static void symbolsAtFirst() {
        Due.sentence("Part 1", "K SYMBOLS of SIZE bytes (0 at first)");
        FountainRows rows = new FountainRows();
        rows.source(32, 8, 8, 3);
        for (int i = 0; i < 40; i++) {
            Due.due("part " + i, rows.part(0, i), 0);
        }
        rows.frame(0, 65535);
        for (int i = 2; i < 10; i++) {
            Due.due("byte " + i + " of an output", rows.frameByte(i), 0);
        }
    }

    private static void tableOfItsTime() {
        Due.sentence("Part 1", "THE TABLE as it was when they came");
        FountainRows rows = new FountainRows();
        onlyWeights(rows, 0, 0, 7);
        rows.source(20, 0, 1, 4);
        onlyWeights(rows, 0, 0, 0, 0, 7);
        rows.source(20, 0, 1, 4);
        onlyWeights(rows);
        for (int x = 20; x < 40; x++) {
            Due.due("by three: " + x, Long.bitCount(rows.row(0, x)), 3);
            Due.due("by five: " + x, Long.bitCount(rows.row(1, x)), 5);
        }
    }

    /** Source 4, 2, 3, 77 has the sums 0 ^ 3 and 0 ^ 1. */
    private static void partNumbers() {
        Due.sentence("Part 1", "0 .. K - 1 the SYMBOLS, K .. K + P - 1 the SUMS");
        FountainRows rows = new FountainRows();
        rows.source(4, 2, 3, 77);
        for (int i = 0; i < 4; i++) {
            rows.symbol(0, i, 1 << i);
        }
        Due.due("the first symbol", rows.part(0, 0), 1);
        Due.due("the last symbol", rows.part(0, 3), 8);
        Due.due("the first sum", rows.part(0, 4), 9);
        Due.due("the last sum", rows.part(0, 5), 3);
        Due.due("none behind", rows.part(0, 6), 0);
        Due.due("none before", rows.part(0, -1), 0);
    }

    private static void sumsStartWraps() {
        Due.sentence("Part 1", "z = SEED + 40503 (j + 1)");
        FountainRows rows = new FountainRows();
        rows.source(32, 8, 1, Setup.HIGH);
        rows.source(32, 8, 1, -1);
        rows.source(32, 8, 1, Setup.LOW);
        rows.source(32, 8, 1, -324024);
        Due.due("the highest seed, first", rows.sumRow(0, 0), 1382595424L);
        Due.due("the highest seed, last", rows.sumRow(0, 7), 4066498278L);
        Due.due("-1, first", rows.sumRow(1, 0), 2912371871L);
        Due.due("-1, last", rows.sumRow(1, 7), 228469017L);
        Due.due("the lowest seed, first", rows.sumRow(2, 0), 1744844338L);
        Due.due("the lowest seed, last", rows.sumRow(2, 7), 4228995986L);
        Due.due("the last from 0", rows.sumRow(3, 7), 205111212L);
    }

    private static void sumOfNone() {
        Due.sentence("Part 1", "(none: 0s)");
        FountainRows rows = new FountainRows();
        rows.source(1, 1, 8, 200);
        rows.symbol(0, 0, -1);
        Due.due("no symbols", rows.sumRow(0, 0), 0);
        Due.due("0s", rows.part(0, 1), 0);
    }

    private static void numbersUpTo65535() {
        Due.sentence("Part 1", "a number x, 0 to 65535");
        FountainRows rows = new FountainRows();
        rows.source(32, 8, 1, 1);
        Due.due("the least", rows.row(0, 0), 1);
        Due.due("the greatest", rows.row(0, 65535), 417685569536L);
        Due.due("too small", rows.row(0, -1), -2);
        Due.due("too large", rows.row(0, 65536), -2);
    }

    private static void numbersBelowK() {
        Due.sentence("Part 1", "below K: PART x alone");
        for (int k = 1; k <= 32; k++) {
            FountainRows rows = new FountainRows();
            Setup.onlyDegree(rows, 2);
            rows.source(k, 1, 1, 7);
            Due.due("the last below " + k, rows.row(0, k - 1), 1L << (k - 1));
            Due.due("K is " + k, Long.bitCount(rows.row(0, k)), 2);
        }
    }

    private static void rowsStartWraps() {
        Due.sentence("Part 1", "from z = SEED ^ x * 40503 (32 bits)");
        int[] seeds = {0, -1, Setup.HIGH, Setup.LOW};
        int[] numbers = {32, 53020, 53021, 65535};
        long[][] want = {
            {8590983168L, 274878431232L, 17179869185L, 520L},
            {104430045921L, 262145L, 309238693888L, 34644959232L},
            {35127300L, 17196679168L, 4718592L, 2064L},
            {240552192208L, 34359754752L, 327680L, 167772224L}};
        FountainRows rows = new FountainRows();
        for (int s = 0; s < 4; s++) {
            rows.source(32, 8, 1, seeds[s]);
            for (int n = 0; n < 4; n++) {
                Due.due("seed " + seeds[s] + ", " + numbers[n], rows.row(s, numbers[n]), want[s][n]);
            }
        }
    }

    /** Seed 0, T 3: t is 0 for 11, 1 for 6, 2 for 5. */
    private static void degreeAboveT() {
        Due.sentence("Part 1", "the first one with which the sum of WEIGHTS comes to be above t");
        int[][] tables = {{1, 1, 1}, {2, 1}, {1, 2}, {3}, {0, 3}, {1, 0, 2}};
        int[][] want = {{1, 2, 3}, {1, 1, 2}, {1, 2, 2}, {1, 1, 1}, {2, 2, 2}, {1, 3, 3}};
        for (int n = 0; n < tables.length; n++) {
            FountainRows rows = new FountainRows();
            onlyWeights(rows, tables[n]);
            rows.source(5, 2, 1, 0);
            Due.due("table " + n + ", t is 0", Long.bitCount(rows.row(0, 11)), want[n][0]);
            Due.due("table " + n + ", t is 1", Long.bitCount(rows.row(0, 6)), want[n][1]);
            Due.due("table " + n + ", t is 2", Long.bitCount(rows.row(0, 5)), want[n][2]);
        }
    }

    private static void degreesOfWeightZero() {
        Due.sentence("Terms", "a WEIGHT (0 to 100) for each DEGREE");
        for (int d = 1; d <= 12; d++) {
            FountainRows rows = new FountainRows();
            Setup.onlyDegree(rows, 13);
            rows.degree(d, 1);
            rows.source(32, 8, 1, 5 - d);
            for (int x = 32; x < 60; x++) {
                Due.due("of weight 1, " + d, Long.bitCount(rows.row(0, x)), d);
            }
        }
    }

    private static void degreeAtMostAll() {
        Due.sentence("Part 1", "K + P at most");
        FountainRows rows = new FountainRows();
        Setup.onlyDegree(rows, 12);
        rows.source(1, 0, 1, 3);
        rows.source(8, 3, 1, 3);
        rows.source(8, 4, 1, 3);
        rows.source(8, 5, 1, 3);
        for (int x = 8; x < 40; x++) {
            Due.due("one part", rows.row(0, x), 1);
            Due.due("eleven parts", rows.row(1, x), (1 << 11) - 1);
            Due.due("twelve parts", rows.row(2, x), (1 << 12) - 1);
            Due.due("thirteen parts", Long.bitCount(rows.row(3, x)), 12);
        }
    }

    /** Seed 9, five parts: the second part drawn is there already, and for the third the next one too. */
    private static void partsThatAreThere() {
        Due.sentence("Part 1", "if that is there already, the next one");
        FountainRows two = new FountainRows();
        onlyWeights(two, 0, 1);
        two.source(4, 1, 1, 9);
        Due.due("0 twice", two.row(0, 23), 0b00011);
        Due.due("1 twice", two.row(0, 33), 0b00110);
        Due.due("2 twice", two.row(0, 22), 0b01100);
        Due.due("3 twice", two.row(0, 24), 0b11000);
        FountainRows three = new FountainRows();
        onlyWeights(three, 0, 0, 1);
        three.source(4, 1, 1, 9);
        Due.due("0 three times", three.row(0, 56), 0b00111);
        Due.due("0, 1, then 0", three.row(0, 276), 0b00111);
        Due.due("2 three times", three.row(0, 95), 0b11100);
    }

    private static void behindTheLastTheFirst() {
        Due.sentence("Part 1", "(behind the last the first)");
        FountainRows two = new FountainRows();
        onlyWeights(two, 0, 1);
        two.source(4, 1, 1, 9);
        Due.due("4 twice", two.row(0, 41), 0b10001);
        FountainRows three = new FountainRows();
        onlyWeights(three, 0, 0, 1);
        three.source(4, 1, 1, 9);
        Due.due("3 three times", three.row(0, 24), 0b11001);
        Due.due("3, 4, then 3", three.row(0, 15), 0b11001);
        Due.due("4 three times", three.row(0, 41), 0b10011);
        Due.due("4, 0, then 4", three.row(0, 57), 0b10011);
    }

    /** Source 4, 2, 3, 77 has the sums 0 ^ 3 and 0 ^ 1; the row of 4 has every part. */
    private static void outputOfAllParts() {
        Due.sentence("Part 1", "OUTPUT x is the ^ of these PARTS");
        FountainRows rows = new FountainRows();
        rows.source(4, 2, 3, 77);
        for (int i = 0; i < 4; i++) {
            rows.symbol(0, i, 1 << i);
        }
        int[] numbers = {3, 4, 5, 1000, 53021, 65535};
        int[] want = {8, 15 ^ 9 ^ 3, 2 ^ 9, 7 ^ 3, 1 ^ 3, 2 ^ 9};
        for (int n = 0; n < numbers.length; n++) {
            rows.frame(0, numbers[n]);
            Due.due("output " + numbers[n], rows.frameByte(4), want[n]);
        }
    }

    private static void frameBytes() {
        Due.sentence("Part 1", "x (two, the higher first), OUTPUT x, SUM of these bytes");
        FountainRows rows = new FountainRows();
        rows.source(1, 0, 1, 0);
        rows.source(1, 0, 8, 0);
        rows.symbol(0, 0, 0x9A);
        rows.symbol(1, 0, 0x0123456789ABCDEFL);
        int[] numbers = {0, 255, 256, 65280, 65535};
        for (int x : numbers) {
            dueFrame(rows, 0, x, x >> 8, x & 255, 0x9A);
            dueFrame(rows, 1, x, x >> 8, x & 255, 0x01, 0x23, 0x45, 0x67, 0x89, 0xAB, 0xCD, 0xEF);
        }
    }

    private static void dueFrame(FountainRows rows, int source, int x, int... bytes) {
        Due.due("length", rows.frame(source, x), bytes.length + 2);
        for (int i = 0; i < bytes.length; i++) {
            Due.due("byte " + i + " for " + x, rows.frameByte(i), bytes[i]);
        }
        int sum = Model.sumOf(bytes, 0, bytes.length);
        Due.due("the sum's higher, " + x, rows.frameByte(bytes.length), sum >> 8);
        Due.due("the sum's lower, " + x, rows.frameByte(bytes.length + 1), sum & 255);
        Due.due("behind", rows.frameByte(bytes.length + 2), -1);
    }
}
