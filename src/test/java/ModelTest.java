import java.util.Random;

/** Long runs of calls of every kind: the class must answer what the model answers (promises 1 to 22). */
public final class ModelTest {
    private static final int RUNS = 600;
    private static final int CALLS = 512;

    private final Random random;
    private final int run;
    private final FountainRows rows = new FountainRows();
    private final Model model = new Model();
    private int calls = 0;

    private ModelTest(int run) {
        this.run = run;
        random = new Random(run * 7919L + 1);
    }

    public static void main(String[] args) {
        for (int run = 0; run < RUNS; run++) {
            new ModelTest(run).play();
        }
        Due.end();
    }

    private void due(String call, long got, long want) {
        calls++;
        Due.due("run " + run + ", call " + calls + ": " + call, got, want);
    }

    private boolean chance(int percent) {
        return random.nextInt(100) < percent;
    }

    private int between(int least, int most) {
        return least + random.nextInt(most - least + 1);
    }

    private int aSource() {
        return chance(4) ? between(-1, 4) : random.nextInt(1 + run % 3);
    }

    private int aNumber() {
        if (chance(3)) {
            return chance(50) ? between(-2, 1) : between(65534, 65537);
        }
        return chance(70) ? between(0, 90) : between(0, 65535);
    }

    private int anIndex(int most) {
        return chance(3) ? (chance(50) ? Integer.MIN_VALUE : Integer.MAX_VALUE) : between(-1, most);
    }

    private void play() {
        if (chance(40)) {
            for (int n = between(1, 20); n > 0; n--) {
                degree();
            }
        }
        source();
        for (int i = 0; i < 32 && chance(97); i++) {
            symbol(0, i);
        }
        while (calls < CALLS - 8) {
            int kind = random.nextInt(100);
            if (kind < 45) {
                frames();
            } else if (kind < 75) {
                receivers();
            } else if (kind < 87) {
                images();
            } else {
                sources();
            }
        }
    }

    private void degree() {
        int d = between(0, 13);
        int weight = chance(30) ? 0 : between(-1, 101);
        due("degree(" + d + ", " + weight + ")", rows.degree(d, weight), model.degree(d, weight));
    }

    private void source() {
        boolean small = run % 2 == 0;
        int k = chance(5) ? between(-1, 33) : between(1, small ? 6 : 32);
        int p = chance(5) ? between(-1, 9) : between(0, small ? 3 : 8);
        int size = chance(5) ? between(-1, 9) : between(1, 8);
        int seed = chance(30) ? between(-3, 3) : random.nextInt();
        due("source(" + k + ", " + p + ", " + size + ", " + seed + ")",
                rows.source(k, p, size, seed), model.source(k, p, size, seed));
    }

    private void symbol(int source, int i) {
        long v = chance(20) ? between(-2, 2) : random.nextLong();
        due("symbol(" + source + ", " + i + ", " + v + ")",
                rows.symbol(source, i, v), model.symbol(source, i, v));
    }

    private void sources() {
        int s = aSource();
        int i = anIndex(40);
        int x = aNumber();
        int j = anIndex(8);
        switch (random.nextInt(12)) {
            case 0: degree(); break;
            case 1: source(); break;
            case 2: symbol(s, i); break;
            case 3: case 4: case 5:
                due("row(" + s + ", " + x + ")", rows.row(s, x), model.row(s, x)); break;
            case 6: case 7:
                due("sumRow(" + s + ", " + j + ")", rows.sumRow(s, j), model.sumRow(s, j)); break;
            default:
                due("part(" + s + ", " + i + ")", rows.part(s, i), model.part(s, i)); break;
        }
    }

    private void poke() {
        int i = chance(30) ? between(0, 1) : anIndex(12);
        int mask = chance(50) ? 1 << random.nextInt(8) : random.nextInt();
        due("poke(" + i + ", " + mask + ")", rows.poke(i, mask), model.poke(i, mask));
    }

    private void frames() {
        int kind = random.nextInt(100);
        if (kind < 70) {
            int s = aSource();
            int x = aNumber();
            due("frame(" + s + ", " + x + ")", rows.frame(s, x), model.frame(s, x));
            if (chance(15)) {
                poke();
                if (chance(60)) {
                    due("sign()", rows.sign(), model.sign());
                }
            }
            due("take()", rows.take(), model.take());
        } else if (kind < 90) {
            int i = anIndex(12);
            due("frameByte(" + i + ")", rows.frameByte(i), model.frameByte(i));
        } else {
            poke();
        }
    }

    private void receivers() {
        int s = aSource();
        int i = anIndex(40);
        int what = between(-1, 10);
        int k = anIndex(64);
        switch (random.nextInt(6)) {
            case 0: case 1:
                due("told(" + s + ", " + what + ")", rows.told(s, what), model.told(s, what)); break;
            case 2:
                due("taken(" + s + ", " + k + ")", rows.taken(s, k), model.taken(s, k)); break;
            case 3:
                due("isKnown(" + s + ", " + i + ")", rows.isKnown(s, i), model.isKnown(s, i)); break;
            case 4:
                due("known(" + s + ", " + i + ")", rows.known(s, i), model.known(s, i)); break;
            default:
                due("peeled(" + s + ", " + i + ")", rows.peeled(s, i), model.peeled(s, i)); break;
        }
    }

    private void setByte(int i, int b) {
        due("setByte(" + i + ", " + b + ")", rows.setByte(i, b), model.setByte(i, b));
    }

    private void images() {
        int s = aSource();
        int kind = random.nextInt(100);
        if (kind < 30) {
            due("image(" + s + ")", rows.image(s), model.image(s));
        } else if (kind < 50) {
            int i = anIndex(Math.max(11, model.imageLength()));
            due("imageByte(" + i + ")", rows.imageByte(i), model.imageByte(i));
        } else if (kind < 55) {
            setByte(anIndex(Math.max(11, model.imageLength())), random.nextInt());
        } else if (kind < 60) {
            int n = anIndex(model.imageLength() + 1);
            due("cut(" + n + ")", rows.cut(n), model.cut(n));
        } else if (kind < 80) {
            alteredImage(s);
        } else {
            due("resume(" + s + ")", rows.resume(s), model.resume(s));
        }
    }

    /** An image with entries altered, or the last ones gone, that is whole again by its SUM. */
    private void alteredImage(int s) {
        int length = model.image(s);
        due("image(" + s + ")", rows.image(s), length);
        if (length < 14) {
            return;
        }
        int entry = 2 + model.imageByte(2);
        int count = (length - 11) / entry;
        if (chance(40)) {
            int keep = random.nextInt(count);
            due("cut", rows.cut(11 + keep * entry), model.cut(11 + keep * entry));
            setByte(8, keep);
        } else {
            setByte(9 + random.nextInt(count) * entry + random.nextInt(entry), random.nextInt(4));
        }
        if (chance(85)) {
            int sum = model.imageSum();
            setByte(model.imageLength() - 2, sum >> 8);
            setByte(model.imageLength() - 1, sum);
        }
        due("resume(" + s + ")", rows.resume(s), model.resume(s));
    }
}
