/** "An object is used for at most 512 calls": all 512 answer as the model does, the dearest among them. */
public final class CallsTest {
    private static final int CALLS = 512;

    private final FountainRows rows = new FountainRows();
    private final Model model = new Model();
    private int calls = 0;

    public static void main(String[] args) {
        Due.sentence("What it is", "An object is used for at most 512 calls after it has been made");
        new CallsTest().fullThenAsked();
        new CallsTest().imagesAlone();
        Due.end();
    }

    private void due(String call, long got, long want) {
        calls++;
        Due.due(call + ", call " + calls, got, want);
    }

    private void sources() {
        for (int s = 0; s < 4; s++) {
            due("source", rows.source(32, 8, 8, 1 - s), model.source(32, 8, 8, 1 - s));
        }
    }

    private void send(int s, int x) {
        due("frame", rows.frame(s, x), model.frame(s, x));
        due("take", rows.take(), model.take());
    }

    /** Three receivers are full before the last call. */
    private void fullThenAsked() {
        sources();
        for (int x = 0; x < 64; x++) {
            for (int s = 0; s < 3; s++) {
                send(s, 60000 + x);
            }
        }
        for (int i = 0; calls < CALLS - 1; i++) {
            int s = i % 4;
            due("peeled", rows.peeled(s, i % 40), model.peeled(s, i % 40));
        }
        due("told", rows.told(2, 1), model.told(2, 1));
    }

    private void imagesAlone() {
        sources();
        for (int x = 0; x < 64; x++) {
            due("symbol", rows.symbol(0, x % 32, ~x), model.symbol(0, x % 32, ~x));
            send(0, 1000 * x);
        }
        while (calls < CALLS - 3) {
            due("image", rows.image(0), model.image(0));
            due("resume", rows.resume(0), model.resume(0));
            due("told", rows.told(0, 5), model.told(0, 5));
        }
        while (calls < CALLS) {
            due("known", rows.known(0, calls % 40), model.known(0, calls % 40));
        }
    }
}
