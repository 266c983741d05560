/** Promise 6 fee. */
public final class FeesTest {
    private static final Due d = new Due();

    public static void main(String[] args) {
        wrongFees();
        fees();
        dearestFee();
        renewalsAtTheFeeItHad();
        d.finish();
    }

    private static void wrongFees() {
        RightsLimit x = new RightsLimit();
        d.due("fee(-1, 1)", x.fee(-1, 1), -2);
        d.due("fee(100, 1)", x.fee(100, 1), -2);
        d.due("fee(0, -1)", x.fee(0, -1), -2);
        d.due("fee(0, 10001)", x.fee(0, 10001), -2);
        d.due("fee(0, 0)", x.fee(0, 0), 1);
        d.due("fee(99, 10000)", x.fee(99, 10000), 1);
    }

    private static void fees() {
        RightsLimit x = new RightsLimit();
        x.title(3);
        x.title(4);
        x.limit(0, 0, 1, 0);
        x.limit(1, 0, 1, 0);
        d.due("no fee at first", x.ask(0, 0, 0, 7, 0), -10);
        x.fee(3, 25);
        d.due("a fee", x.ask(0, 0, 0, 7, 0), 1);
        d.due("by a fee", Due.request(x, 1, 5), 5);
        d.due("pages * fee", Due.request(x, 1, 7), 175);
        d.due("another publisher's title", x.ask(0, 1, 0, 7, 0), -12);
        d.due("a wrong fee", x.fee(3, 10001), -2);
        d.due("leaves the fee", x.ask(0, 0, 0, 2, 0), 3);
        d.due("at 25", Due.request(x, 3, 7), 50);
        x.fee(3, 1);
        d.due("the least fee", x.ask(0, 0, 0, 1, 0), 4);
        d.due("one cent", Due.request(x, 4, 7), 1);
        x.fee(3, 0);
        d.due("0 is none", x.ask(0, 0, 0, 1, 0), -15);
        d.due("no cents within limits", x.ask(0, 0, 1, 9, 0), 6);
        d.due("no cents", Due.request(x, 6, 7), 0);
        d.due("cents of the person", x.statistics(0, 3), 226);
    }

    private static void dearestFee() {
        RightsLimit x = new RightsLimit();
        x.title(99);
        x.limit(0, 0, 1, 0);
        x.fee(99, 10000);
        x.ask(1, 0, 0, 1000, 0);
        d.due("dearest", Due.request(x, 0, 7), 10000000);
        x.renew(0, 0);
        x.renew(0, 0);
        d.due("dearest renewed twice", Due.request(x, 0, 7), 30000000);
        long sum = 30000000;
        for (int i = 1; i < 300; i++) {
            x.ask(1, 0, 0, 1000, 0);
            sum += 10000000;
        }
        d.due("cents wrap into an int", x.statistics(1, 3), (int) sum);
        d.due("pages", x.statistics(1, 2), 300000);
    }

    private static void renewalsAtTheFeeItHad() {
        RightsLimit x = new RightsLimit();
        x.title(1);
        x.limit(0, 0, 1, 1);
        x.ask(0, 0, 0, 10, 0);
        x.fee(1, 3);
        x.ask(0, 0, 0, 10, 0);
        x.fee(1, 0);
        x.renew(1, 0);
        d.due("its fee once more, though there is none now", Due.request(x, 1, 7), 60);
        x.fee(1, 500);
        x.renew(1, 0);
        d.due("its fee, not today's", Due.request(x, 1, 7), 90);
        x.renew(0, 0);
        d.due("none, if it had none", Due.request(x, 0, 7), 0);
        d.due("renewals are among a person's cents", x.statistics(0, 3), 90);
        d.due("a third renewal", x.renew(1, 0), -3);
        d.due("costs nothing", Due.request(x, 1, 7), 90);
    }
}
