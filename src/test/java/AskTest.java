/** Promises 7 ask and 8 why, and the time that never goes back. */
public final class AskTest {
    private static final Due d = new Due();

    public static void main(String[] args) {
        wrongRequests();
        edgesOfRequests();
        order();
        why();
        roomForRequests();
        timeNeverGoesBack();
        timeOfCallsThatAreRefused();
        d.finish();
    }

    private static void wrongRequests() {
        RightsLimit x = new RightsLimit();
        x.title(0);
        d.due("no title 1", x.ask(0, 1, 0, 1, 0), -1);
        d.due("no title -1", x.ask(0, -1, 0, 1, 0), -1);
        d.due("NONE before RANGE", x.ask(-1, 1, 2, 0, -1), -1);
        d.due("person -1", x.ask(-1, 0, 0, 1, 0), -2);
        d.due("person 100", x.ask(100, 0, 0, 1, 0), -2);
        d.due("kind -1", x.ask(0, 0, -1, 1, 0), -2);
        d.due("kind 2", x.ask(0, 0, 2, 1, 0), -2);
        d.due("pages 0", x.ask(0, 0, 0, 0, 0), -2);
        d.due("pages 1001", x.ask(0, 0, 0, 1001, 0), -2);
        d.due("time -1", x.ask(0, 0, 0, 1, -1), -2);
        d.due("time 1000000001", x.ask(0, 0, 0, 1, 1000000001), -2);
        d.due("none of these is a request", x.statistics(0, 0), 0);
        d.due("the first one", x.ask(0, 0, 0, 1, 0), 0);
    }

    private static void edgesOfRequests() {
        RightsLimit x = new RightsLimit();
        x.title(0);
        d.due("least", x.ask(0, 0, 0, 1, 0), 0);
        d.due("most", x.ask(99, 0, 1, 1000, 1000000000), 1);
        d.due("its end is behind the latest time", Due.request(x, 1, 8), 1002592000);
        d.due("renewed", x.renew(1, 1000000000), 1005184000);
        d.due("renewed again", x.renew(1, 1000000000), 1007776000);
    }

    private static void order() {
        RightsLimit x = new RightsLimit();
        x.title(0);
        x.limit(0, 0, 1, 1);
        x.licence(0, 0, 1, 0, 100);
        x.fee(0, 2);
        x.right(0, 3);
        x.give(0, 3, true);
        x.waive(0, 0);
        x.open(0, true);
        x.ask(0, 0, 0, 1, 0);
        d.due("open first", Due.request(x, 0, 5), 1);
        x.open(0, false);
        x.ask(0, 0, 0, 1, 0);
        d.due("then the licence", Due.request(x, 1, 5), 2);
        x.ask(0, 0, 0, 1, 0);
        d.due("then within limits", Due.request(x, 2, 5), 3);
        x.ask(0, 0, 0, 1, 0);
        d.due("then the waiver", Due.request(x, 3, 5), 4);
        d.due("which costs nothing", Due.request(x, 3, 7), 0);
        x.ask(0, 0, 0, 1, 0);
        d.due("then the fee", Due.request(x, 4, 5), 5);
        x.fee(0, 0);
        d.due("then refused", x.ask(0, 0, 0, 1, 0), -15);
        d.due("by 0", Due.request(x, 5, 5), 0);
    }

    private static void why() {
        RightsLimit x = new RightsLimit();
        x.title(0);
        x.title(1);
        d.due("none was", x.why(), -1);
        x.limit(0, 1, 1, 5);
        x.limit(1, 0, 1, 0);
        x.limit(0, 0, 2, 1);
        x.limit(0, 0, 1, 1);
        x.ask(0, 0, 0, 1, 0);
        d.due("allowed: none was", x.why(), -1);
        x.ask(0, 0, 0, 1, 0);
        d.due("the first by numbers", x.why(), 2);
        x.ask(0, 0, 1, 1, 0);
        d.due("an allowed one leaves it", x.why(), 2);
        x.ask(0, 1, 0, 1, 0);
        d.due("the latest", x.why(), 1);
        x.ask(0, 0, 0, 0, 0);
        d.due("a wrong one leaves it", x.why(), 1);
        x.ask(0, 0, 0, 1, 0);
        d.due("the latest again", x.why(), 2);
        x.fee(1, 1);
        x.ask(0, 1, 0, 1, 0);
        d.due("one for a fee leaves it", x.why(), 2);
    }

    private static void roomForRequests() {
        RightsLimit x = new RightsLimit();
        x.title(0);
        x.limit(0, 0, 1, 150);
        x.limit(0, 0, 1, 0);
        for (int i = 0; i < 299; i++) {
            d.due("refused " + i, x.ask(1, 0, 0, 1, i), -10 - i);
        }
        d.due("the last one", x.ask(1, 0, 1, 1, 299), 299);
        x.licence(0, 0, 1, 0, 1000);
        d.due("full", x.ask(1, 0, 0, 1, 299), -4);
        d.due("full: takes no licence", x.left(0), 1);
        d.due("full, and no title", x.ask(1, 1, 0, 1, 299), -1);
        d.due("full, and the time back", x.ask(1, 0, 0, 1, 298), -2);
        d.due("299 is there", Due.request(x, 299, 4), 299);
        d.due("300 is not", Due.request(x, 300, 4), Due.THROWS);
        d.due("the only copy of them", Due.past(x, 1000000000, 0), 299);
        d.due("no second one", Due.past(x, 1000000000, 1), Due.THROWS);
        d.due("requests", x.statistics(1, 0), 300);
        d.due("refused ones", x.statistics(1, 1), 299);
        d.due("full at 400", x.ask(1, 0, 0, 1, 400), -4);
        d.due("the call was not refused for 400", x.renew(299, 399), -2);
        d.due("at 400", x.delete(299, 400), 1);
    }

    private static void timeNeverGoesBack() {
        RightsLimit x = new RightsLimit();
        x.title(0);
        x.ask(0, 0, 0, 1, 100);
        d.due("ask back", x.ask(0, 0, 0, 1, 99), -2);
        d.due("renew back", x.renew(0, 99), -2);
        d.due("delete back", x.delete(0, 99), -2);
        d.due("ask at the same time", x.ask(0, 0, 0, 1, 100), 1);
        x.renew(0, 200);
        d.due("back behind a renewal", x.ask(0, 0, 0, 1, 199), -2);
        x.delete(0, 300);
        d.due("back behind a deletion", x.ask(0, 0, 0, 1, 299), -2);
        x.limit(0, 0, 1, 0);
        x.ask(0, 0, 0, 1, 400);
        d.due("back behind a refused request", x.ask(0, 0, 1, 1, 399), -2);
        d.due("at its time", x.ask(0, 0, 1, 1, 400), 3);
    }

    private static void timeOfCallsThatAreRefused() {
        RightsLimit x = new RightsLimit();
        x.title(0);
        x.ask(0, 0, 0, 1, 100);
        x.ask(0, 0, 0, 1, 1000000001);
        x.renew(0, 1000000001);
        x.delete(0, 1000000001);
        d.due("a time out of range does not go on", x.ask(0, 0, 0, 1, 100), 1);
        x.ask(0, 7, 0, 1, 500);
        x.ask(100, 0, 0, 1, 500);
        x.renew(7, 500);
        x.delete(7, 500);
        d.due("nor one that no title, person or request was there for", x.ask(0, 0, 0, 1, 100), 2);
        x.counted(0, 0, 1, 500);
        Due.past(x, 500, 0);
        Due.past(x, 100000000, 0);
        d.due("nor one that is only looked at", x.ask(0, 0, 0, 1, 100), 3);
        x.delete(0, 100);
        d.due("STATE at 600", x.renew(0, 600), -3);
        d.due("the call was not refused for 600", x.ask(0, 0, 0, 1, 599), -2);
        d.due("STATE at 700", x.delete(0, 700), -3);
        d.due("nor for 700", x.ask(0, 0, 0, 1, 699), -2);
        d.due("at 700", x.ask(0, 0, 0, 1, 700), 4);
    }
}
