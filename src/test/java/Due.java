import java.util.NoSuchElementException;

/** Holds each answer against the one that is due, and tells the wrong ones. */
final class Due {
    /** Stands for a NoSuchElementException; no int answer is as low. */
    static final long THROWS = Long.MIN_VALUE;

    private int wrong = 0;
    private int seen = 0;

    void due(String call, long got, long want) {
        seen++;
        if (got != want) {
            wrong++;
            System.out.println(call + " answered " + told(got) + ", due is " + told(want));
        }
    }

    /** Ends the test: with exit code 1 if an answer was wrong. */
    void finish() {
        System.out.println(seen + " answers, " + wrong + " of them wrong");
        if (wrong != 0) {
            System.exit(1);
        }
    }

    static long request(RightsLimit x, int i, int what) {
        try {
            return x.request(i, what);
        } catch (NoSuchElementException e) {
            return THROWS;
        }
    }

    static long past(RightsLimit x, int t, int i) {
        try {
            return x.past(t, i);
        } catch (NoSuchElementException e) {
            return THROWS;
        }
    }

    private static String told(long answer) {
        return answer == THROWS ? "throws.NoSuchElementException" : Long.toString(answer);
    }
}
