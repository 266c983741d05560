/**
 * Long runs of calls, good and wrong ones, against PlainModel. An exception
 * that is not the document's ends the test.
 */
public final class ModelTest {
    private static final int RUNS = 1500;
    private static final int CALLS = 512;

    public static void main(String[] args) {
        Due d = new Due();
        for (int seed = 0; seed < RUNS; seed++) {
            run(d, seed);
        }
        d.finish();
    }

    private static void run(Due d, int seed) {
        RightsLimit x = new RightsLimit();
        PlainModel model = new PlainModel();
        RandomCalls calls = new RandomCalls(seed);
        for (int i = 0; i < CALLS; i++) {
            Call call = calls.next(model.time(), model.requestsMade());
            d.due("seed " + seed + ", call " + i + ": " + call, call.madeOn(x), call.madeOn(model));
        }
    }
}
