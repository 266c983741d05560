import java.util.Random;

/**
 * Long runs of calls, good and wrong ones, against PlainModel. The seeds are
 * fixed, so that a run that fails fails again. An exception that is not the
 * document's ends the test.
 */
public final class ModelTest {
    private static final int RUNS = 1500;
    private static final int CALLS = 512;
    private static final int[] ODD = {
        Integer.MIN_VALUE, Integer.MIN_VALUE + 1, -1000000000, -11, -2, -1, 10, 11, 49, 50, 51, 99, 100, 101,
        299, 300, 301, 1000, 1001, 5000, 5001, 10000, 10001, 999999999, 1000000000, 1000000001, Integer.MAX_VALUE
    };
    private static final int[] STEPS = {0, 0, 1, 43200, 86399, 86400, 86401, 600000, 2591999, 2592000, 2592001};

    private final Random random;
    private final RightsLimit x = new RightsLimit();
    private final PlainModel model = new PlainModel();
    /** How many of each there should be room for; a few make calls meet. */
    private final int titles;
    private final int persons;
    private final int step;
    private final int oddOneIn;
    private int asked = 0;

    private ModelTest(int seed) {
        random = new Random(seed);
        titles = pick(3) == 0 ? 50 : 1 + pick(4);
        persons = pick(2) == 0 ? 100 : 1 + pick(3);
        step = pick(3);
        oddOneIn = pick(4) == 0 ? 5 : 60;
    }

    public static void main(String[] args) {
        Due d = new Due();
        for (int seed = 0; seed < RUNS; seed++) {
            new ModelTest(seed).run(d, seed);
        }
        d.finish();
    }

    private void run(Due d, int seed) {
        for (int i = 0; i < CALLS; i++) {
            call(d, "seed " + seed + ", call " + i + ": ", i < 20 ? pick(12) : pick(40));
        }
    }

    private void call(Due d, String where, int which) {
        int a = odd(pick(titles));
        int kind = odd(pick(2));
        int person = odd(pick(persons));
        boolean on = pick(3) != 0;
        switch (which) {
            case 0: case 1: case 2: {
                int publisher = odd(pick(3));
                d.due(where + "title(" + publisher + ")", x.title(publisher), model.title(publisher));
                break;
            }
            case 3: case 4: case 5: {
                int days = odd(1 + pick(40));
                int n = odd(pick(6));
                d.due(where + "limit(" + a + ", " + kind + ", " + days + ", " + n + ")",
                        x.limit(a, kind, days, n), model.limit(a, kind, days, n));
                break;
            }
            case 6: case 7: {
                int n = odd(pick(4));
                int from = odd(time(pick(2000000) - 1000000));
                int to = odd(from + pick(3000000) - 100);
                d.due(where + "licence(" + a + ", " + kind + ", " + n + ", " + from + ", " + to + ")",
                        x.licence(a, kind, n, from, to), model.licence(a, kind, n, from, to));
                break;
            }
            case 8: {
                int publisher = odd(pick(3));
                int cents = odd(pick(2) == 0 ? 0 : pick(10001));
                d.due(where + "fee(" + publisher + ", " + cents + ")",
                        x.fee(publisher, cents), model.fee(publisher, cents));
                break;
            }
            case 9: {
                int right = odd(pick(10));
                d.due(where + "right(" + a + ", " + right + ")", x.right(a, right), model.right(a, right));
                break;
            }
            case 10: {
                int right = odd(1 + pick(9));
                d.due(where + "give(" + person + ", " + right + ", " + on + ")",
                        x.give(person, right, on), model.give(person, right, on));
                break;
            }
            case 11: {
                boolean opened = pick(4) == 0;
                d.due(where + "open(" + a + ", " + opened + ")", x.open(a, opened), model.open(a, opened));
                break;
            }
            case 12: case 13:
                d.due(where + "waive(" + a + ", " + person + ")", x.waive(a, person), model.waive(a, person));
                break;
            default:
                laterCall(d, where, which, a, kind, person);
        }
    }

    private void laterCall(Due d, String where, int which, int title, int kind, int person) {
        int r = odd(pick(asked + 1));
        int t = odd(time(pick(12) == 0 ? -1 : STEPS[pick(STEPS.length)] >> (step * 4)));
        int back = odd(time(pick(10000000) - 8000000));
        switch (which) {
            case 14: case 15: case 16:
                d.due(where + "renew(" + r + ", " + t + ")", x.renew(r, t), model.renew(r, t));
                break;
            case 17: case 18:
                d.due(where + "delete(" + r + ", " + t + ")", x.delete(r, t), model.delete(r, t));
                break;
            case 19: case 20: {
                int days = odd(1 + pick(40));
                d.due(where + "counted(" + title + ", " + kind + ", " + days + ", " + back + ")",
                        x.counted(title, kind, days, back), model.counted(title, kind, days, back));
                break;
            }
            case 21: case 22: case 23: {
                int what = odd(pick(11));
                d.due(where + "request(" + r + ", " + what + ")", Due.request(x, r, what), model.request(r, what));
                break;
            }
            case 24: {
                int licence = odd(pick(10));
                d.due(where + "left(" + licence + ")", x.left(licence), model.left(licence));
                break;
            }
            case 25: case 26: {
                int what = odd(pick(4));
                d.due(where + "statistics(" + person + ", " + what + ")",
                        x.statistics(person, what), model.statistics(person, what));
                break;
            }
            case 27: case 28: {
                int i = odd(pick(5));
                d.due(where + "past(" + back + ", " + i + ")", Due.past(x, back, i), model.past(back, i));
                break;
            }
            case 29:
                d.due(where + "why()", x.why(), model.why());
                break;
            default: {
                int pages = odd(1 + pick(1000));
                long want = model.ask(person, title, kind, pages, t);
                asked += want >= 0 || want <= -10 ? 1 : 0;
                d.due(where + "ask(" + person + ", " + title + ", " + kind + ", " + pages + ", " + t + ")",
                        x.ask(person, title, kind, pages, t), want);
            }
        }
    }

    private int pick(int below) {
        return random.nextInt(below);
    }

    /** A number as it is, or now and then an edge or one that can't be. */
    private int odd(int number) {
        if (pick(oddOneIn) != 0) {
            return number;
        }
        int edge = ODD[pick(ODD.length)];
        // The latest time would leave no time for the rest of the run.
        return edge >= 999999999 && edge <= 1000000000 && pick(20) != 0 ? number : edge;
    }

    private int time(int away) {
        return (int) model.time() + away;
    }
}
