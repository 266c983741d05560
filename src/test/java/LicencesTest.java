/** Promises 5 licence and 16 left. */
public final class LicencesTest {
    private static final Due d = new Due();

    public static void main(String[] args) {
        wrongLicences();
        roomForLicences();
        whenItHolds();
        firstByNumbers();
        timesOfItsOwn();
        d.finish();
    }

    private static void wrongLicences() {
        RightsLimit x = new RightsLimit();
        x.title(0);
        d.due("licence of no title", x.licence(1, 0, 1, 0, 1), -1);
        d.due("licence of title -1", x.licence(-1, 0, 1, 0, 1), -1);
        d.due("licence: NONE before RANGE", x.licence(1, 5, -1, 2, 1), -1);
        d.due("licence: kind -1", x.licence(0, -1, 1, 0, 1), -2);
        d.due("licence: kind 2", x.licence(0, 2, 1, 0, 1), -2);
        d.due("licence: n -1", x.licence(0, 0, -1, 0, 1), -2);
        d.due("licence: n 1001", x.licence(0, 0, 1001, 0, 1), -2);
        d.due("licence: from -1", x.licence(0, 0, 1, -1, 1), -2);
        d.due("licence: to 1000000001", x.licence(0, 0, 1, 0, 1000000001), -2);
        d.due("licence: both too late", x.licence(0, 0, 1, 1000000001, 1000000001), -2);
        d.due("licence: both too early", x.licence(0, 0, 1, -2, -1), -2);
        d.due("licence: from behind to", x.licence(0, 0, 1, 2, 1), -2);
        d.due("licence: of one second", x.licence(0, 0, 0, 2, 2), 0);
        d.due("licence: the widest", x.licence(0, 1, 1000, 0, 1000000000), 1);
        d.due("left(0)", x.left(0), 0);
        d.due("left(1)", x.left(1), 1000);
        d.due("left(2)", x.left(2), -1);
        d.due("left(-1)", x.left(-1), -1);
        d.due("left(MAX)", x.left(Integer.MAX_VALUE), -1);
    }

    private static void roomForLicences() {
        RightsLimit x = new RightsLimit();
        x.title(0);
        for (int i = 0; i < 50; i++) {
            d.due("licence " + i, x.licence(0, 0, i, 0, 9), i);
        }
        d.due("licence 50", x.licence(0, 0, 1, 0, 9), -4);
        d.due("licence 50 of no title", x.licence(1, 0, 1, 0, 9), -1);
        d.due("licence 50, from behind to", x.licence(0, 0, 1, 9, 0), -2);
        d.due("left(49)", x.left(49), 49);
        d.due("left(50)", x.left(50), -1);
        d.due("none of all fifty holds", x.ask(0, 0, 0, 1, 10), 0);
        d.due("within limits", Due.request(x, 0, 5), 3);
    }

    private static void whenItHolds() {
        RightsLimit x = new RightsLimit();
        x.title(0);
        x.title(0);
        x.limit(0, 0, 1, 0);
        x.limit(0, 1, 1, 0);
        x.limit(1, 0, 1, 0);
        x.licence(0, 0, 2, 100, 200);
        d.due("a second before it", x.ask(0, 0, 0, 1, 99), -10);
        d.due("its first second", x.ask(0, 0, 0, 1, 100), 1);
        d.due("by a licence", Due.request(x, 1, 5), 2);
        d.due("by this licence", Due.request(x, 1, 6), 0);
        d.due("one left", x.left(0), 1);
        d.due("not for the other kind", x.ask(0, 0, 1, 1, 100), -12);
        d.due("not for the other title", x.ask(0, 1, 0, 1, 100), -13);
        d.due("its last second", x.ask(0, 0, 0, 1, 200), 4);
        d.due("none left", x.left(0), 0);
        d.due("used up", x.ask(0, 0, 0, 1, 200), -15);
        d.due("used up: none below 0", x.left(0), 0);
        x.licence(0, 0, 2, 100, 200);
        d.due("behind it", x.ask(0, 0, 0, 1, 201), -16);
        d.due("behind it: left as it was", x.left(1), 2);
        x.delete(1, 300);
        x.renew(4, 300);
        d.due("deleting and renewing take and give none", x.left(0), 0);
    }

    private static void firstByNumbers() {
        RightsLimit x = new RightsLimit();
        x.title(0);
        x.licence(0, 0, 0, 0, 10);
        x.licence(0, 0, 1, 5, 10);
        x.licence(0, 0, 1, 0, 10);
        x.licence(0, 0, 9, 0, 4);
        d.due("at 0", x.ask(0, 0, 0, 1, 0), 0);
        d.due("at 0 by licence 2", Due.request(x, 0, 6), 2);
        d.due("at 4", x.ask(0, 0, 0, 1, 4), 1);
        d.due("at 4 by licence 3", Due.request(x, 1, 6), 3);
        d.due("at 5", x.ask(0, 0, 0, 1, 5), 2);
        d.due("at 5 by licence 1", Due.request(x, 2, 6), 1);
        d.due("at 6, none left", x.ask(0, 0, 0, 1, 6), 3);
        d.due("at 6 within limits, as there are none", Due.request(x, 3, 5), 3);
        d.due("at 6 by no licence", Due.request(x, 3, 6), -1);
    }

    private static void timesOfItsOwn() {
        RightsLimit x = new RightsLimit();
        x.title(0);
        x.limit(0, 0, 1, 0);
        x.ask(0, 0, 0, 1, 500);
        d.due("a licence's times may lie back", x.licence(0, 0, 1, 100, 600), 0);
        d.due("the time did not go on by it", x.ask(0, 0, 0, 1, 500), 1);
    }
}
