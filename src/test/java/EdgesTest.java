import java.util.ArrayList;
import java.util.List;

/**
 * Each call with mixtures of edges (too small, least, most, too large) of its
 * numbers, against PlainModel; then some calls more, which tell whether it
 * changed what it should. All calls on objects that are empty and in use; on
 * full ones those that need room.
 */
public final class EdgesTest {
    private static final int MIN = Integer.MIN_VALUE;
    private static final int MAX = Integer.MAX_VALUE;
    private static final int NOW = 1000000;
    private static final int TERM = 30 * 86400;

    private static final int[] TITLES = {MIN, -1, 0, 1, 2, 49, 50, MAX};
    private static final int[] HUNDRED = {MIN, -1, 0, 99, 100, MAX};
    private static final int[] KINDS = {MIN, -1, 0, 1, 2, MAX};
    private static final int[] DAYS = {MIN, -1, 0, 1, 5000, 5001, MAX};
    private static final int[] COPIES = {MIN, -1, 0, 1, 1000, 1001, MAX};
    private static final int[] PAGES = {-1, 0, 1, 1000, 1001};
    private static final int[] CENTS = {MIN, -1, 0, 1, 10000, 10001, MAX};
    private static final int[] RIGHTS = {MIN, -1, 0, 1, 9, 10, 33, MAX};
    private static final int[] SWITCH = {0, 1};
    private static final int[] REQUESTS = {MIN, -10, -1, 0, 1, 2, 3, 4, 5, 6, 7, 299, 300, MAX};
    private static final int[] LICENCES = {MIN, -1, 0, 1, 2, 49, 50, MAX};
    private static final int[] WHATS = {MIN, -1, 0, 1, 2, 3, 4, 5, 6, 7, 8, 9, 10, 11, MAX};
    private static final int[] PLACES = {MIN, -1, 0, 1, 2, 3, 4, 299, 300, MAX};
    private static final int[] TIMES = {
        MIN, -1, 0, NOW - 1, NOW, NOW + 1, NOW + TERM - 1, NOW + TERM, NOW + TERM + 1,
        999999999, 1000000000, 1000000001, MAX
    };
    private static final int[] FEW_TIMES = {-1, 0, NOW - 1, NOW, 1000000000, 1000000001};

    private static final Due d = new Due();

    private final List<Call> before;
    private final List<Call> after;

    private EdgesTest(List<Call> before, List<Call> after) {
        this.before = before;
        this.after = after;
    }

    public static void main(String[] args) {
        new EdgesTest(new ArrayList<>(), someMore()).all();
        new EdgesTest(inUse(), someMore()).all();
        new EdgesTest(full(), fewMore()).makingCalls();
        d.finish();
    }

    private void all() {
        cross("open", TITLES, SWITCH);
        cross("fee", HUNDRED, CENTS);
        cross("give", HUNDRED, RIGHTS, SWITCH);
        cross("right", TITLES, RIGHTS);
        cross("renew", REQUESTS, TIMES);
        cross("delete", REQUESTS, TIMES);
        cross("counted", TITLES, KINDS, DAYS, TIMES);
        cross("request", REQUESTS, WHATS);
        cross("left", LICENCES);
        cross("statistics", HUNDRED, WHATS);
        cross("past", TIMES, PLACES);
        cross("why");
        makingCalls();
    }

    private void makingCalls() {
        cross("title", HUNDRED);
        cross("limit", new int[] {-1, 0, 50}, new int[] {-1, 0, 1, 2}, DAYS, COPIES);
        cross("licence", new int[] {-1, 0, 50}, new int[] {0, 2}, new int[] {-1, 0, 1000, 1001}, FEW_TIMES, FEW_TIMES);
        cross("ask", new int[] {-1, 0, 99, 100}, new int[] {-1, 0, 1, 50}, new int[] {-1, 0, 1, 2}, PAGES, FEW_TIMES);
        cross("waive", TITLES, HUNDRED);
    }

    private void cross(String name, int[]... edges) {
        cross(name, edges, new int[edges.length], 0);
    }

    private void cross(String name, int[][] edges, int[] numbers, int place) {
        if (place == edges.length) {
            look(new Call(name, numbers.clone()));
            return;
        }
        for (int edge : edges[place]) {
            numbers[place] = edge;
            cross(name, edges, numbers, place + 1);
        }
    }

    private void look(Call call) {
        RightsLimit x = new RightsLimit();
        PlainModel model = new PlainModel();
        for (Call c : before) {
            c.madeOn(x);
            c.madeOn(model);
        }
        d.due(before.size() + " calls, then " + call, call.madeOn(x), call.madeOn(model));
        for (Call c : after) {
            d.due(before.size() + " calls, " + call + ", then " + c, c.madeOn(x), c.madeOn(model));
        }
    }

    /** Two titles; requests 0 to 5 by each way that there is; a waiver is left. */
    private static List<Call> inUse() {
        List<Call> calls = new ArrayList<>();
        calls.add(new Call("title", 0));
        calls.add(new Call("title", 99));
        calls.add(new Call("limit", 0, 0, 1, 1));
        calls.add(new Call("limit", 1, 1, 5000, 0));
        calls.add(new Call("licence", 0, 0, 1, NOW, NOW));
        calls.add(new Call("licence", 1, 1, 0, NOW, NOW));
        calls.add(new Call("right", 0, 9));
        calls.add(new Call("give", 99, 9, 1));
        calls.add(new Call("open", 0, 1));
        calls.add(new Call("ask", 0, 0, 0, 1, NOW));
        calls.add(new Call("open", 0, 0));
        calls.add(new Call("ask", 0, 0, 0, 10, NOW));
        calls.add(new Call("ask", 99, 0, 0, 100, NOW));
        calls.add(new Call("waive", 0, 99));
        calls.add(new Call("waive", 0, 99));
        calls.add(new Call("ask", 0, 0, 0, 1000, NOW));
        calls.add(new Call("fee", 99, 7));
        calls.add(new Call("ask", 99, 1, 1, 3, NOW));
        calls.add(new Call("fee", 99, 0));
        calls.add(new Call("ask", 99, 1, 1, 3, NOW));
        calls.add(new Call("renew", 4, NOW));
        calls.add(new Call("renew", 4, NOW));
        calls.add(new Call("delete", 3, NOW));
        return calls;
    }

    private static List<Call> someMore() {
        List<Call> calls = new ArrayList<>();
        calls.add(new Call("why"));
        calls.add(new Call("left", 0));
        calls.add(new Call("left", 1));
        calls.add(new Call("counted", 0, 0, 1, NOW));
        calls.add(new Call("past", 1000000000, 2));
        for (int what = 0; what < 4; what++) {
            calls.add(new Call("statistics", 0, what));
            calls.add(new Call("statistics", 99, what));
        }
        calls.add(new Call("waive", 0, 99));
        calls.add(new Call("waive", 0, 0));
        calls.add(new Call("ask", 99, 0, 0, 5, NOW));
        calls.add(new Call("ask", 0, 0, 1, 5, NOW));
        calls.add(new Call("ask", 0, 1, 0, 5, NOW));
        calls.add(new Call("ask", 0, 1, 1, 5, NOW));
        calls.add(new Call("why"));
        for (int what = 0; what < 11; what++) {
            calls.add(new Call("request", 4, what));
            calls.add(new Call("request", 6, what));
        }
        calls.add(new Call("renew", 2, NOW));
        calls.add(new Call("delete", 3, 999999999));
        calls.add(new Call("delete", 4, 999999999));
        calls.add(new Call("title", 0));
        calls.add(new Call("limit", 0, 0, 1, 1));
        calls.add(new Call("licence", 0, 0, 1, 0, 1));
        return calls;
    }

    /** No room for a title, a limit, a licence or a request; that takes 500 of a run's 512 calls. */
    private static List<Call> full() {
        List<Call> calls = new ArrayList<>();
        for (int i = 0; i < 50; i++) {
            calls.add(new Call("title", i));
            calls.add(new Call("limit", i, 1, 1, 1));
            calls.add(new Call("limit", i, 1, 2, 1));
            calls.add(new Call("licence", i, 0, 1, 0, NOW));
        }
        for (int i = 0; i < 300; i++) {
            calls.add(new Call("ask", i % 100, i % 49, 1, 1, NOW));
        }
        return calls;
    }

    private static List<Call> fewMore() {
        List<Call> calls = new ArrayList<>();
        calls.add(new Call("title", 0));
        calls.add(new Call("limit", 0, 0, 1, 1));
        calls.add(new Call("licence", 0, 0, 1, 0, 1));
        calls.add(new Call("left", 0));
        calls.add(new Call("request", 299, 4));
        calls.add(new Call("statistics", 0, 0));
        calls.add(new Call("ask", 0, 49, 0, 1, NOW));
        calls.add(new Call("why"));
        return calls;
    }
}
