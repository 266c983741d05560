/** Promises 12 renew, 13 delete and 18 past. */
public final class CopiesTest {
    private static final int TERM = 2592000;
    private static final Due d = new Due();

    public static void main(String[] args) {
        renew();
        renewAtItsEnd();
        delete();
        deleteAtItsEnd();
        past();
        pastAtOddTimes();
        d.finish();
    }

    /** Request 0 is a copy of time 100, request 1 is refused. */
    private static RightsLimit copyAndRefused() {
        RightsLimit x = new RightsLimit();
        x.title(0);
        x.limit(0, 0, 1, 1);
        d.due("a copy", x.ask(0, 0, 0, 1, 100), 0);
        d.due("a refused one", x.ask(0, 0, 0, 1, 100), -11);
        return x;
    }

    private static void renew() {
        RightsLimit x = copyAndRefused();
        d.due("renew(2)", x.renew(2, 100), -1);
        d.due("renew(-1)", x.renew(-1, 100), -1);
        d.due("NONE before RANGE", x.renew(2, -1), -1);
        d.due("back", x.renew(0, 99), -2);
        d.due("too late a time", x.renew(0, 1000000001), -2);
        d.due("RANGE before STATE", x.renew(1, 99), -2);
        d.due("refused", x.renew(1, 100), -3);
        d.due("once", x.renew(0, 200), 100 + 2 * TERM);
        d.due("renewed 1", Due.request(x, 0, 9), 1);
        d.due("its end", Due.request(x, 0, 8), 100 + 2 * TERM);
        d.due("twice", x.renew(0, 300), 100 + 3 * TERM);
        d.due("thrice", x.renew(0, 400), -3);
        d.due("renewed 2", Due.request(x, 0, 9), 2);
        d.due("its end stays", Due.request(x, 0, 8), 100 + 3 * TERM);
        d.due("a refused one has no end", Due.request(x, 1, 8), -1);
    }

    private static void renewAtItsEnd() {
        RightsLimit x = copyAndRefused();
        d.due("a second before", x.renew(0, 99 + TERM), 100 + 2 * TERM);
        d.due("its end has come", x.renew(0, 100 + 2 * TERM), -3);
        d.due("it stays", Due.request(x, 0, 8), 100 + 2 * TERM);
        RightsLimit y = copyAndRefused();
        d.due("deleted", y.delete(0, 100), 1);
        d.due("not after it", y.renew(0, 100), -3);
        d.due("not renewed", Due.request(y, 0, 9), 0);
    }

    private static void delete() {
        RightsLimit x = copyAndRefused();
        d.due("delete(2)", x.delete(2, 100), -1);
        d.due("delete(-1)", x.delete(-1, 100), -1);
        d.due("NONE before RANGE", x.delete(2, -1), -1);
        d.due("back", x.delete(0, 99), -2);
        d.due("too late a time", x.delete(0, 1000000001), -2);
        d.due("RANGE before STATE", x.delete(1, 99), -2);
        d.due("refused", x.delete(1, 100), -3);
        d.due("not deleted yet", Due.request(x, 0, 10), -1);
        d.due("deleted", x.delete(0, 150), 1);
        d.due("when", Due.request(x, 0, 10), 150);
        d.due("again", x.delete(0, 160), -3);
        d.due("when it was", Due.request(x, 0, 10), 150);
        d.due("its end stays", Due.request(x, 0, 8), 100 + TERM);
        d.due("it counts on", x.ask(0, 0, 0, 1, 160), -12);
        d.due("its pages stay", x.statistics(0, 2), 1);
        d.due("a refused one is not deleted", Due.request(x, 1, 10), -1);
    }

    private static void deleteAtItsEnd() {
        RightsLimit x = copyAndRefused();
        d.due("a second before", x.delete(0, 99 + TERM), 1);
        RightsLimit y = copyAndRefused();
        d.due("at its end", y.delete(0, 100 + TERM), 0);
        d.due("it is deleted", Due.request(y, 0, 10), 100 + TERM);
        d.due("again", y.delete(0, 100 + TERM), -3);
        RightsLimit z = copyAndRefused();
        z.renew(0, 100);
        d.due("before its later end", z.delete(0, 100 + TERM), 1);
        RightsLimit n = new RightsLimit();
        n.title(0);
        n.ask(0, 0, 0, 1, 0);
        d.due("deleted at 0", n.delete(0, 0), 1);
        d.due("is deleted", n.delete(0, 0), -3);
    }

    private static void past() {
        RightsLimit x = copyAndRefused();
        x.ask(0, 0, 1, 1, 100);
        x.ask(0, 0, 1, 1, 200);
        x.ask(0, 0, 1, 1, 300);
        x.renew(2, 300);
        d.due("none before an end", Due.past(x, 99 + TERM, 0), Due.THROWS);
        d.due("the first at its end", Due.past(x, 100 + TERM, 0), 0);
        d.due("no second", Due.past(x, 100 + TERM, 1), Due.THROWS);
        d.due("a renewed one is not past", Due.past(x, 200 + TERM, 1), 3);
        d.due("nor a third", Due.past(x, 200 + TERM, 2), Due.THROWS);
        d.due("all, 0", Due.past(x, 100 + 2 * TERM, 0), 0);
        d.due("all, 1: the refused one is none", Due.past(x, 100 + 2 * TERM, 1), 2);
        d.due("all, 2", Due.past(x, 100 + 2 * TERM, 2), 3);
        d.due("all, 3", Due.past(x, 100 + 2 * TERM, 3), 4);
        d.due("all, 4", Due.past(x, 100 + 2 * TERM, 4), Due.THROWS);
        d.due("i -1", Due.past(x, 100 + 2 * TERM, -1), Due.THROWS);
        d.due("i MAX", Due.past(x, 100 + 2 * TERM, Integer.MAX_VALUE), Due.THROWS);
        d.due("i MIN", Due.past(x, 100 + 2 * TERM, Integer.MIN_VALUE), Due.THROWS);
        x.delete(0, 100 + 2 * TERM);
        d.due("without a deleted one", Due.past(x, 100 + 2 * TERM, 0), 2);
        d.due("the time may lie back", Due.past(x, 200 + TERM, 0), 3);
        d.due("far back", Due.past(x, 0, 0), Due.THROWS);
    }

    private static void pastAtOddTimes() {
        RightsLimit x = copyAndRefused();
        d.due("the latest time", Due.past(x, 1000000000, 0), 0);
        d.due("behind the latest", Due.past(x, 1000000001, 0), 0);
        d.due("MAX", Due.past(x, Integer.MAX_VALUE, 0), 0);
        d.due("MAX, none such", Due.past(x, Integer.MAX_VALUE, 1), Due.THROWS);
        d.due("-1: no end has come", Due.past(x, -1, 0), Due.THROWS);
        d.due("MIN: no end has come", Due.past(x, Integer.MIN_VALUE, 0), Due.THROWS);
        d.due("the time did not go on", x.delete(0, 100), 1);
    }
}
