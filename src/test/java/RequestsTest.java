/** Promises 15 request and 17 statistics. */
public final class RequestsTest {
    private static final Due d = new Due();

    public static void main(String[] args) {
        request();
        refusedRequest();
        noSuchRequest();
        statistics();
        noSuchStatistics();
        d.finish();
    }

    private static void facts(RightsLimit x, int i, int... wants) {
        for (int what = 0; what < wants.length; what++) {
            d.due("request(" + i + ", " + what + ")", Due.request(x, i, what), wants[what]);
        }
    }

    private static void request() {
        RightsLimit x = new RightsLimit();
        x.title(8);
        x.title(9);
        x.licence(0, 0, 1, 0, 9);
        x.licence(1, 1, 1, 0, 9);
        x.limit(1, 1, 1, 0);
        x.ask(42, 1, 1, 17, 3);
        facts(x, 0, 42, 1, 1, 17, 3, 2, 1, 0, 2592003, 0, -1);
        x.fee(9, 10);
        x.ask(43, 1, 1, 5, 4);
        facts(x, 1, 43, 1, 1, 5, 4, 5, -1, 50, 2592004, 0, -1);
        x.renew(1, 6);
        x.delete(1, 7);
        facts(x, 1, 43, 1, 1, 5, 4, 5, -1, 100, 5184004, 1, 7);
        facts(x, 0, 42, 1, 1, 17, 3, 2, 1, 0, 2592003, 0, -1);
    }

    private static void refusedRequest() {
        RightsLimit x = new RightsLimit();
        x.title(8);
        x.limit(0, 1, 1, 0);
        x.ask(99, 0, 1, 1000, 70);
        facts(x, 0, 99, 0, 1, 1000, 70, 0, -1, 0, -1, 0, -1);
    }

    private static void noSuchRequest() {
        RightsLimit x = new RightsLimit();
        x.title(8);
        x.ask(0, 0, 0, 1, 0);
        d.due("request(1, 0)", Due.request(x, 1, 0), Due.THROWS);
        d.due("request(-1, 0)", Due.request(x, -1, 0), Due.THROWS);
        d.due("request(MIN, 0)", Due.request(x, Integer.MIN_VALUE, 0), Due.THROWS);
        d.due("request(300, 0)", Due.request(x, 300, 0), Due.THROWS);
        d.due("request(0, -1)", Due.request(x, 0, -1), Due.THROWS);
        d.due("request(0, 11)", Due.request(x, 0, 11), Due.THROWS);
        d.due("request(0, MAX)", Due.request(x, 0, Integer.MAX_VALUE), Due.THROWS);
    }

    private static void statistics() {
        RightsLimit x = new RightsLimit();
        x.title(0);
        x.title(1);
        x.limit(0, 0, 1, 1);
        x.limit(1, 0, 1, 0);
        x.fee(1, 4);
        x.ask(5, 0, 0, 10, 0);
        x.ask(5, 0, 0, 100, 0);
        x.ask(6, 0, 0, 1000, 0);
        x.ask(5, 1, 0, 3, 0);
        x.ask(5, 1, 1, 8, 0);
        d.due("requests", x.statistics(5, 0), 4);
        d.due("refused", x.statistics(5, 1), 1);
        d.due("pages allowed", x.statistics(5, 2), 21);
        d.due("cents", x.statistics(5, 3), 12);
        d.due("the other's requests", x.statistics(6, 0), 1);
        d.due("the other's refused", x.statistics(6, 1), 1);
        d.due("the other's pages", x.statistics(6, 2), 0);
        d.due("the other's cents", x.statistics(6, 3), 0);
        x.renew(3, 0);
        x.delete(3, 0);
        d.due("a renewal is no request", x.statistics(5, 0), 4);
        d.due("a renewal is no page", x.statistics(5, 2), 21);
        d.due("a renewal costs", x.statistics(5, 3), 24);
    }

    private static void noSuchStatistics() {
        RightsLimit x = new RightsLimit();
        d.due("statistics(-1, 0)", x.statistics(-1, 0), -1);
        d.due("statistics(100, 0)", x.statistics(100, 0), -1);
        d.due("statistics(99, 3)", x.statistics(99, 3), 0);
        d.due("statistics(0, -1)", x.statistics(0, -1), -1);
        d.due("statistics(0, 4)", x.statistics(0, 4), -1);
    }
}
