import java.util.Random;

/**
 * Calls, most of them good and some wrong, such as meet one another in a run.
 * The seed is given, so that a run that fails fails again.
 */
final class RandomCalls {
    private static final int[] ODD = {
        Integer.MIN_VALUE, Integer.MIN_VALUE + 1, -1000000000, -11, -2, -1, 10, 11, 49, 50, 51, 99, 100, 101,
        299, 300, 301, 1000, 1001, 5000, 5001, 10000, 10001, 999999999, 1000000000, 1000000001, Integer.MAX_VALUE
    };
    private static final int[] STEPS = {0, 0, 1, 43200, 86399, 86400, 86401, 600000, 2591999, 2592000, 2592001};

    private final Random random;
    /** How many of each there should be; a few make calls meet. */
    private final int titles;
    private final int persons;
    private final int step;
    private final int oddOneIn;
    private int made = 0;

    RandomCalls(int seed) {
        random = new Random(seed);
        titles = pick(3) == 0 ? 50 : 1 + pick(4);
        persons = pick(2) == 0 ? 100 : 1 + pick(3);
        step = pick(3);
        oddOneIn = pick(4) == 0 ? 5 : 60;
    }

    /** The next call of a run that has come to a time and has so many requests. */
    Call next(int now, int requests) {
        made++;
        int which = made <= 20 ? pick(12) : pick(40);
        return which < 14 ? making(which, now) : using(which, now, requests);
    }

    private Call making(int which, int now) {
        int title = odd(pick(titles));
        int kind = odd(pick(2));
        switch (which) {
            case 0: case 1: case 2:
                return new Call("title", odd(pick(3)));
            case 3: case 4: case 5:
                return new Call("limit", title, kind, odd(1 + pick(40)), odd(pick(6)));
            case 6: case 7: {
                int from = odd(now + pick(2000000) - 1000000);
                return new Call("licence", title, kind, odd(pick(4)), from, odd(from + pick(3000000) - 100));
            }
            case 8:
                return new Call("fee", odd(pick(3)), odd(pick(2) == 0 ? 0 : pick(10001)));
            case 9:
                return new Call("right", title, odd(pick(10)));
            case 10:
                return new Call("give", person(), odd(1 + pick(9)), pick(3) != 0 ? 1 : 0);
            case 11:
                return new Call("open", title, pick(4) == 0 ? 1 : 0);
            default:
                return new Call("waive", title, person());
        }
    }

    private Call using(int which, int now, int requests) {
        int title = odd(pick(titles));
        int kind = odd(pick(2));
        int request = odd(pick(requests + 1));
        int t = odd(now + (pick(12) == 0 ? -1 : STEPS[pick(STEPS.length)] >> (step * 4)));
        int anyTime = odd(now + pick(10000000) - 8000000);
        switch (which) {
            case 14: case 15: case 16:
                return new Call("renew", request, t);
            case 17: case 18:
                return new Call("delete", request, t);
            case 19: case 20:
                return new Call("counted", title, kind, odd(1 + pick(40)), anyTime);
            case 21: case 22: case 23:
                return new Call("request", request, odd(pick(11)));
            case 24:
                return new Call("left", odd(pick(10)));
            case 25: case 26:
                return new Call("statistics", person(), odd(pick(4)));
            case 27: case 28:
                return new Call("past", anyTime, odd(pick(5)));
            case 29:
                return new Call("why");
            default:
                return new Call("ask", person(), title, kind, odd(1 + pick(1000)), t);
        }
    }

    private int person() {
        return odd(pick(persons));
    }

    private int pick(int below) {
        return random.nextInt(below);
    }

    /** A number as it is, or now and then an edge or one that can't be. */
    private int odd(int number) {
        if (pick(oddOneIn) != 0) {
            return number;
        }
        int edge = ODD[pick(ODD.length)];
        // The latest time would leave no time for the rest of the run.
        return edge >= 999999999 && edge <= 1000000000 && pick(20) != 0 ? number : edge;
    }
}
