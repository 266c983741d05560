/**
 * A call that is refused leaves all as it was. Of two objects one is given
 * every call of a run, the other only those that were not refused: they must
 * answer alike to the end.
 */
public final class RefusedCallsTest {
    private static final int RUNS = 1000;
    private static final int CALLS = 512;

    public static void main(String[] args) {
        Due d = new Due();
        for (int seed = 0; seed < RUNS; seed++) {
            run(d, 1000000 + seed);
        }
        d.finish();
    }

    private static void run(Due d, int seed) {
        RightsLimit all = new RightsLimit();
        RightsLimit good = new RightsLimit();
        // The model only tells what time it is and how many requests there are.
        PlainModel model = new PlainModel();
        RandomCalls calls = new RandomCalls(seed);
        for (int i = 0; i < CALLS; i++) {
            Call call = calls.next(model.time(), model.requestsMade());
            call.madeOn(model);
            long answer = call.madeOn(all);
            if (!isRefused(call, answer)) {
                d.due("seed " + seed + ", call " + i + ": " + call, call.madeOn(good), answer);
            }
        }
    }

    private static boolean isRefused(Call call, long answer) {
        boolean byNoneOrRange = answer == RightsLimit.NONE || answer == RightsLimit.RANGE;
        boolean byStateOrFull = answer == RightsLimit.STATE || answer == RightsLimit.FULL;
        // A time is gone on to even if the call is then refused by its state.
        return byNoneOrRange || byStateOrFull && !call.mayGoOn();
    }
}
