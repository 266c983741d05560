/** Promises 1 A new object, 2 title, 3 open, and the constants. */
public final class TitlesTest {
    private static final Due d = new Due();

    public static void main(String[] args) {
        constants();
        newObject();
        title();
        open();
        d.finish();
    }

    private static void constants() {
        d.due("NONE", RightsLimit.NONE, -1);
        d.due("RANGE", RightsLimit.RANGE, -2);
        d.due("STATE", RightsLimit.STATE, -3);
        d.due("FULL", RightsLimit.FULL, -4);
    }

    private static void newObject() {
        RightsLimit x = new RightsLimit();
        d.due("new: open(0)", x.open(0, true), -1);
        d.due("new: limit of title 0", x.limit(0, 0, 1, 1), -1);
        d.due("new: licence of title 0", x.licence(0, 0, 1, 0, 1), -1);
        d.due("new: ask for title 0", x.ask(0, 0, 0, 1, 0), -1);
        d.due("new: right(0, 1)", x.right(0, 1), -1);
        d.due("new: waive(0, 0)", x.waive(0, 0), -1);
        d.due("new: counted", x.counted(0, 0, 1, 0), -1);
        d.due("new: renew(0, 0)", x.renew(0, 0), -1);
        d.due("new: delete(0, 0)", x.delete(0, 0), -1);
        d.due("new: left(0)", x.left(0), -1);
        d.due("new: why()", x.why(), -1);
        d.due("new: request(0, 0)", Due.request(x, 0, 0), Due.THROWS);
        d.due("new: past", Due.past(x, 1000000000, 0), Due.THROWS);
        for (int what = 0; what < 4; what++) {
            d.due("new: statistics(0, " + what + ")", x.statistics(0, what), 0);
        }
        d.due("new: title(0)", x.title(0), 0);
        d.due("new: the time is 0", x.ask(0, 0, 0, 1, 0), 0);
        RightsLimit y = new RightsLimit();
        d.due("a second object has nothing of the first", y.open(0, true), -1);
    }

    private static void title() {
        RightsLimit x = new RightsLimit();
        d.due("title(-1)", x.title(-1), -2);
        d.due("title(100)", x.title(100), -2);
        d.due("title(MIN)", x.title(Integer.MIN_VALUE), -2);
        d.due("title(MAX)", x.title(Integer.MAX_VALUE), -2);
        d.due("title(0)", x.title(0), 0);
        d.due("title(99)", x.title(99), 1);
        for (int i = 2; i < 50; i++) {
            d.due("title " + i, x.title(7), i);
        }
        d.due("title 50", x.title(7), -4);
        d.due("title 50 of publisher 100", x.title(100), -2);
        d.due("open(49)", x.open(49, true), 1);
        d.due("open(50)", x.open(50, true), -1);
    }

    private static void open() {
        RightsLimit x = new RightsLimit();
        x.title(0);
        x.title(0);
        x.limit(0, 0, 1, 0);
        x.limit(1, 0, 1, 0);
        x.licence(0, 1, 1, 0, 1000);
        d.due("open(-1)", x.open(-1, true), -1);
        d.due("open(2)", x.open(2, true), -1);
        d.due("not open at first", x.ask(0, 0, 0, 1, 5), -10);
        d.due("open(0, true)", x.open(0, true), 1);
        d.due("open: the earlier request stays refused", Due.request(x, 0, 5), 0);
        d.due("open: allowed", x.ask(0, 0, 0, 1, 5), 1);
        d.due("open: by 1", Due.request(x, 1, 5), 1);
        d.due("open: the other title is not", x.ask(0, 1, 0, 1, 5), -12);
        d.due("open: before a licence", x.ask(0, 0, 1, 1, 5), 3);
        d.due("open: no licence", Due.request(x, 3, 6), -1);
        d.due("open: takes none of the licence", x.left(0), 1);
        d.due("open: counts for nothing", x.counted(0, 0, 1, 5), 0);
        d.due("open(0, true) again", x.open(0, true), 1);
        d.due("open(0, false)", x.open(0, false), 1);
        d.due("closed: refused again", x.ask(0, 0, 0, 1, 5), -14);
        d.due("closed: the copy stays one", Due.request(x, 1, 5), 1);
    }
}
