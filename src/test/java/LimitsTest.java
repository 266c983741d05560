/** Promises 4 limit and 14 counted. */
public final class LimitsTest {
    private static final int DAY = 86400;
    private static final Due d = new Due();

    public static void main(String[] args) {
        wrongLimits();
        roomForLimits();
        spans();
        severalLimits();
        limitsThatComeLater();
        counted();
        whatCounts();
        d.finish();
    }

    private static void wrongLimits() {
        RightsLimit x = new RightsLimit();
        x.title(0);
        d.due("limit(1, ..)", x.limit(1, 0, 1, 1), -1);
        d.due("limit(-1, ..)", x.limit(-1, 0, 1, 1), -1);
        d.due("limit: NONE goes before RANGE", x.limit(1, 2, 0, -1), -1);
        d.due("limit: kind -1", x.limit(0, -1, 1, 1), -2);
        d.due("limit: kind 2", x.limit(0, 2, 1, 1), -2);
        d.due("limit: days 0", x.limit(0, 0, 0, 1), -2);
        d.due("limit: days 5001", x.limit(0, 0, 5001, 1), -2);
        d.due("limit: n -1", x.limit(0, 0, 1, -1), -2);
        d.due("limit: n 1001", x.limit(0, 0, 1, 1001), -2);
        d.due("limit: least", x.limit(0, 0, 1, 0), 0);
        d.due("limit: most", x.limit(0, 1, 5000, 1000), 1);
    }

    private static void roomForLimits() {
        RightsLimit x = new RightsLimit();
        x.title(0);
        for (int i = 0; i < 100; i++) {
            d.due("limit " + i, x.limit(0, 0, 1, 1000), i);
        }
        d.due("limit 100", x.limit(0, 0, 1, 1), -4);
        d.due("limit 100 of no title", x.limit(1, 0, 1, 1), -1);
        d.due("limit 100 of kind 2", x.limit(0, 2, 1, 1), -2);
    }

    private static void spans() {
        RightsLimit x = new RightsLimit();
        x.title(0);
        x.title(0);
        x.limit(0, 1, 3, 1);
        d.due("span: first", x.ask(0, 0, 1, 1, 1000), 0);
        d.due("span: same second", x.ask(1, 0, 1, 1, 1000), -11);
        d.due("span: another kind", x.ask(1, 0, 0, 1, 1000), 2);
        d.due("span: another title", x.ask(1, 1, 1, 1, 1000), 3);
        d.due("span: its last second", x.ask(1, 0, 1, 1, 1000 + 3 * DAY), -14);
        d.due("span: behind it", x.ask(1, 0, 1, 1, 1001 + 3 * DAY), 5);
        d.due("span: by 3", Due.request(x, 5, 5), 3);
        x.limit(1, 0, 5000, 1);
        int t = 1001 + 3 * DAY;
        d.due("span: 5000 days, first", x.ask(1, 1, 0, 1, t), 6);
        d.due("span: 5000 days, last", x.ask(1, 1, 0, 1, t + 5000 * DAY), -17);
        d.due("span: 5000 days, behind", x.ask(1, 1, 0, 1, t + 5000 * DAY + 1), 8);
    }

    private static void severalLimits() {
        RightsLimit x = new RightsLimit();
        x.title(0);
        x.limit(0, 1, 1, 0);
        x.limit(0, 0, 10, 3);
        x.limit(0, 0, 1, 2);
        d.due("several: 1", x.ask(0, 0, 0, 1, 0), 0);
        d.due("several: 2", x.ask(0, 0, 0, 1, 0), 1);
        d.due("several: 3", x.ask(0, 0, 0, 1, 0), -12);
        d.due("several: why the day's", x.why(), 2);
        d.due("several: next day", x.ask(0, 0, 0, 1, DAY + 1), 3);
        d.due("several: then not", x.ask(0, 0, 0, 1, DAY + 1), -14);
        d.due("several: why the ten days'", x.why(), 1);
        d.due("several: a day behind, not either", x.ask(0, 0, 0, 1, 2 * DAY + 2), -15);
        d.due("several: ten days behind", x.ask(0, 0, 0, 1, 10 * DAY + 1), 6);
    }

    private static void limitsThatComeLater() {
        RightsLimit x = new RightsLimit();
        x.title(0);
        d.due("no limit: allowed", x.ask(0, 0, 0, 1, 0), 0);
        d.due("no limit: by 3", Due.request(x, 0, 5), 3);
        x.limit(0, 0, 1, 1);
        d.due("a later limit counts earlier copies", x.ask(0, 0, 0, 1, DAY), -11);
        d.due("a later limit: behind its span", x.ask(0, 0, 0, 1, DAY + 1), 2);
    }

    private static void counted() {
        RightsLimit x = new RightsLimit();
        x.title(0);
        x.title(0);
        x.ask(0, 0, 0, 1, 100);
        x.ask(0, 0, 0, 1, 100);
        x.ask(0, 0, 1, 1, 100);
        x.ask(0, 1, 0, 1, 100);
        x.ask(0, 0, 0, 1, 100 + DAY);
        d.due("counted: no title 2", x.counted(2, 0, 1, 0), -1);
        d.due("counted: no title -1", x.counted(-1, 0, 1, 0), -1);
        d.due("counted: NONE before RANGE", x.counted(2, 2, 0, -1), -1);
        d.due("counted: kind 2", x.counted(0, 2, 1, 0), -2);
        d.due("counted: kind -1", x.counted(0, -1, 1, 0), -2);
        d.due("counted: days 0", x.counted(0, 0, 0, 0), -2);
        d.due("counted: days 5001", x.counted(0, 0, 5001, 0), -2);
        d.due("counted: time -1", x.counted(0, 0, 1, -1), -2);
        d.due("counted: time 1000000001", x.counted(0, 0, 1, 1000000001), -2);
        d.due("counted: before", x.counted(0, 0, 1, 99), 0);
        d.due("counted: it may lie back", x.counted(0, 0, 1, 100), 2);
        d.due("counted: kind 1", x.counted(0, 1, 1, 100), 1);
        d.due("counted: title 1", x.counted(1, 0, 1, 100), 1);
        d.due("counted: a second before the next", x.counted(0, 0, 1, 99 + DAY), 2);
        d.due("counted: both ends", x.counted(0, 0, 1, 100 + DAY), 3);
        d.due("counted: the first two behind", x.counted(0, 0, 1, 101 + DAY), 1);
        d.due("counted: two days", x.counted(0, 0, 2, 101 + DAY), 3);
        d.due("counted: 5000 days", x.counted(0, 0, 5000, 100 + 5000 * DAY), 3);
        d.due("counted: latest time", x.counted(0, 0, 5000, 1000000000), 0);
        d.due("counted: the time did not go on", x.ask(0, 0, 0, 1, 100 + DAY), 5);
    }

    private static void whatCounts() {
        RightsLimit x = new RightsLimit();
        x.title(4);
        x.limit(0, 0, 1, 1);
        x.licence(0, 0, 1, 0, 0);
        x.give(0, 1, true);
        x.right(0, 1);
        d.due("by a licence", x.ask(0, 0, 0, 1, 0), 0);
        d.due("a licence's does not count", x.counted(0, 0, 1, 0), 0);
        d.due("within", x.ask(0, 0, 0, 1, 0), 1);
        d.due("within counts", x.counted(0, 0, 1, 0), 1);
        d.due("refused", x.ask(0, 0, 0, 1, 0), -12);
        d.due("refused does not count", x.counted(0, 0, 1, 0), 1);
        x.waive(0, 0);
        d.due("by a waiver", x.ask(0, 0, 0, 1, 0), 3);
        d.due("a waiver's counts", x.counted(0, 0, 1, 0), 2);
        x.fee(4, 1);
        d.due("by a fee", x.ask(0, 0, 0, 1, 0), 4);
        d.due("a fee's counts", x.counted(0, 0, 1, 0), 3);
        x.open(0, true);
        d.due("open", x.ask(0, 0, 0, 1, 0), 5);
        d.due("an open one's does not count", x.counted(0, 0, 1, 0), 3);
        x.delete(1, 0);
        d.due("deleted counts on", x.counted(0, 0, 1, 0), 3);
    }
}
