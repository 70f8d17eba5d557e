import java.util.ArrayList;
import java.util.List;

/**
 * "REFUSALS are answers below 0, and change nothing": after each refused call an object answers
 * whatever it is asked as one that was made the same way and did not get that call.
 */
public final class RefusalsTest {
    private static final int SEED = 6;

    private interface Call {
        long on(FountainRows rows);
    }

    private interface State {
        FountainRows make();
    }

    public static void main(String[] args) {
        Due.sentence("Part 3", "REFUSALS are answers below 0, and change nothing");
        noneSuchWhenNew();
        noneSuch();
        outsideBounds();
        notInThisState();
        noRoom();
        wrongTwiceContrary();
        faults();
        Due.end();
    }

    private static FountainRows fresh() {
        return new FountainRows();
    }

    /** Two sources, something taken by both, an altered frame of one, an altered image of the other. */
    private static FountainRows busy() {
        FountainRows rows = new FountainRows();
        rows.degree(3, 20);
        rows.source(2, 1, 1, SEED);
        rows.source(3, 0, 2, SEED + 1);
        rows.symbol(0, 1, 0x5A);
        rows.symbol(1, 2, 0x1234);
        Setup.send(rows, 0, 1);
        Setup.send(rows, 0, 1);
        Setup.send(rows, 1, 2);
        Setup.send(rows, 1, 700);
        rows.image(1);
        rows.setByte(18, 0x77);
        rows.frame(0, 0);
        rows.poke(2, 0x33);
        rows.degree(5, 99);
        return rows;
    }

    private static FountainRows without(FountainRows rows) {
        Setup.onlyDegree(rows, 13);
        return rows;
    }

    private static FountainRows fourSources() {
        FountainRows rows = busy();
        rows.source(4, 8, 8, 1);
        rows.source(5, 7, 7, 2);
        return rows;
    }

    private static FountainRows full() {
        FountainRows rows = new FountainRows();
        rows.source(1, 0, 1, SEED);
        for (int x = 0; x < 64; x++) {
            Setup.send(rows, 0, x);
        }
        rows.image(0);
        rows.frame(0, 64);
        return rows;
    }

    private static FountainRows contrary() {
        FountainRows rows = busy();
        rows.source(1, 0, 1, SEED);
        Setup.give(rows, 2, 0, 1);
        rows.frame(2, 9);
        return rows;
    }

    private static FountainRows imageCutTo(int n) {
        FountainRows rows = busy();
        rows.image(1);
        rows.cut(n);
        return rows;
    }

    private static List<Long> allAnswers(FountainRows rows) {
        List<Long> all = new ArrayList<>();
        for (int s = 0; s < 4; s++) {
            for (int what = 0; what < 10; what++) {
                all.add((long) rows.told(s, what));
            }
            for (int i = 0; i < 5; i++) {
                all.add((long) rows.taken(s, i));
                all.add((long) rows.isKnown(s, i));
                all.add(rows.known(s, i));
                all.add((long) rows.peeled(s, i));
                all.add(rows.part(s, i));
            }
            all.add((long) rows.taken(s, 63));
            all.add(rows.sumRow(s, 0));
            all.add(rows.row(s, 40));
        }
        for (int i = 0; i <= 12; i++) {
            all.add((long) rows.frameByte(i));
        }
        for (int i = 0; i <= 20; i++) {
            all.add((long) rows.imageByte(i));
        }
        addLastAnswers(rows, all);
        return all;
    }

    /** These change the object: to whom the frame goes, what the image is good for, the table. */
    private static void addLastAnswers(FountainRows rows, List<Long> all) {
        all.add((long) rows.take());
        for (int s = 0; s < 4; s++) {
            all.add((long) rows.told(s, 1));
            all.add((long) rows.resume(s));
        }
        all.add((long) rows.cut(0));
        all.add((long) rows.source(1, 0, 1, 0));
        for (int d = 1; d <= 12; d++) {
            all.add((long) rows.degree(d, 0));
        }
    }

    private static void refused(String name, State state, Call call, long want) {
        FountainRows asked = state.make();
        Due.due(name, call.on(asked), want);
        dueAlike(name, allAnswers(asked), allAnswers(state.make()));
    }

    private static void dueAlike(String name, List<Long> got, List<Long> want) {
        for (int n = 0; n < want.size(); n++) {
            Due.due(name + ", then answer " + n, got.get(n), want.get(n));
        }
    }

    private static void noneSuchWhenNew() {
        for (int s : new int[] {0, 3, -1}) {
            refused("symbol", RefusalsTest::fresh, r -> r.symbol(s, 0, 1), -1);
            refused("row", RefusalsTest::fresh, r -> r.row(s, 0), -1);
            refused("sumRow", RefusalsTest::fresh, r -> r.sumRow(s, 0), -1);
            refused("frame", RefusalsTest::fresh, r -> r.frame(s, 0), -1);
            refused("told", RefusalsTest::fresh, r -> r.told(s, 0), -1);
            refused("taken", RefusalsTest::fresh, r -> r.taken(s, 0), -1);
            refused("isKnown", RefusalsTest::fresh, r -> r.isKnown(s, 0), -1);
            refused("peeled", RefusalsTest::fresh, r -> r.peeled(s, 0), -1);
            refused("image", RefusalsTest::fresh, r -> r.image(s), -1);
            refused("imageByte", RefusalsTest::fresh, r -> r.imageByte(s), -1);
            refused("setByte", RefusalsTest::fresh, r -> r.setByte(s, 1), -1);
            refused("resume", RefusalsTest::fresh, r -> r.resume(s), -1);
        }
    }

    private static void noneSuch() {
        for (int n : new int[] {-1, 30, 64, Setup.LOW, Setup.HIGH}) {
            refused("degree", RefusalsTest::busy, r -> r.degree(n, 7), -1);
            refused("symbol of none", RefusalsTest::busy, r -> r.symbol(n, 0, 1), -1);
            refused("symbol", RefusalsTest::busy, r -> r.symbol(0, n, 1), -1);
            refused("row", RefusalsTest::busy, r -> r.row(n, 0), -1);
            refused("sumRow", RefusalsTest::busy, r -> r.sumRow(0, n), -1);
            refused("frame", RefusalsTest::busy, r -> r.frame(n, 0), -1);
            refused("frameByte", RefusalsTest::busy, r -> r.frameByte(n), -1);
            refused("poke", RefusalsTest::busy, r -> r.poke(n, 255), -1);
            refused("told", RefusalsTest::busy, r -> r.told(n, 4), -1);
            refused("taken", RefusalsTest::busy, r -> r.taken(0, n), -1);
            refused("isKnown", RefusalsTest::busy, r -> r.isKnown(0, n), -1);
            refused("peeled", RefusalsTest::busy, r -> r.peeled(0, n), -1);
            refused("image", RefusalsTest::busy, r -> r.image(n), -1);
            refused("imageByte", RefusalsTest::busy, r -> r.imageByte(n), -1);
            refused("setByte", RefusalsTest::busy, r -> r.setByte(n, 1), -1);
            refused("resume", RefusalsTest::busy, r -> r.resume(n), -1);
        }
        refused("degree 0", RefusalsTest::busy, r -> r.degree(0, 7), -1);
        refused("degree 13", RefusalsTest::busy, r -> r.degree(13, 7), -1);
        refused("symbol K", RefusalsTest::busy, r -> r.symbol(0, 2, 7), -1);
        refused("frame's end", RefusalsTest::busy, r -> r.poke(5, 7), -1);
        refused("image's end", RefusalsTest::busy, r -> r.setByte(19, 7), -1);
    }

    private static void outsideBounds() {
        for (int n : new int[] {-1, 101, Setup.LOW, Setup.HIGH}) {
            refused("degree", RefusalsTest::busy, r -> r.degree(12, n), -2);
            refused("source, K", RefusalsTest::busy, r -> r.source(n, 0, 1, 0), -2);
            refused("source, P", RefusalsTest::busy, r -> r.source(1, n, 1, 0), -2);
            refused("source, SIZE", RefusalsTest::busy, r -> r.source(1, 0, n, 0), -2);
            refused("told", RefusalsTest::busy, r -> r.told(1, n), -2);
            refused("cut", RefusalsTest::busy, r -> r.cut(n), -2);
            refused("cut when new", RefusalsTest::fresh, r -> r.cut(n), -2);
        }
        for (int x : new int[] {-1, 65536, Setup.LOW, Setup.HIGH}) {
            refused("row", RefusalsTest::busy, r -> r.row(1, x), -2);
            refused("frame", RefusalsTest::busy, r -> r.frame(1, x), -2);
        }
        refused("cut to one more", RefusalsTest::busy, r -> r.cut(20), -2);
        refused("source, none of one", RefusalsTest::fresh, r -> r.source(0, 0, 1, 0), -2);
    }

    private static void notInThisState() {
        refused("frameByte", RefusalsTest::fresh, r -> r.frameByte(0), -3);
        refused("poke", RefusalsTest::fresh, r -> r.poke(0, 1), -3);
        refused("sign", RefusalsTest::fresh, FountainRows::sign, -3);
        refused("take", RefusalsTest::fresh, FountainRows::take, -3);
        refused("source", () -> without(fresh()), r -> r.source(1, 0, 1, 0), -3);
        refused("source", () -> without(busy()), r -> r.source(1, 0, 1, 0), -3);
    }

    private static void noRoom() {
        refused("source", RefusalsTest::fourSources, r -> r.source(1, 0, 1, 0), -4);
        refused("take", RefusalsTest::full, FountainRows::take, -4);
    }

    /** take() alone counts what it refuses: but for that nothing changes. */
    private static void wrongTwiceContrary() {
        counted("wrong", RefusalsTest::busy, 0, -5);
        counted("twice", () -> {
            FountainRows rows = busy();
            rows.frame(0, 1);
            return rows;
        }, 0, -6);
        counted("contrary", RefusalsTest::contrary, 2, -7);
    }

    private static void counted(String name, State state, int source, int answer) {
        int what = 2 - answer;
        FountainRows asked = state.make();
        Due.due(name, asked.take(), answer);
        List<Long> got = allAnswers(asked);
        List<Long> want = allAnswers(state.make());
        int counter = source * 38 + what;
        want.set(counter, want.get(counter) + 1);
        dueAlike(name, got, want);
    }

    private static void faults() {
        for (int n = 0; n <= 10; n++) {
            int cut = n;
            refused("fault 1", () -> imageCutTo(cut), r -> r.resume(1), -11);
        }
        for (int n = 11; n <= 18; n++) {
            int cut = n;
            refused("fault 2", () -> imageCutTo(cut), r -> r.resume(0), -12);
            refused("fault 3", () -> imageCutTo(cut), r -> r.resume(1), -13);
        }
        refused("fault 4", RefusalsTest::busy, r -> r.resume(1), -14);
    }
}
