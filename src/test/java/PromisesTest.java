/**
 * Promises 1 to 11 and 14: each clause that names a boundary has a test of its
 * own, under its words. A call that is refused leaves everything as it was.
 */
public final class PromisesTest {
    private static final int MIN = Integer.MIN_VALUE;
    private static final int MAX = Integer.MAX_VALUE;
    private static final Due d = new Due();

    public static void main(String[] args) {
        newObjectHasNothing();
        newObjectIsAtTime0();
        titleRange();
        titleFull();
        openNone();
        openFromNowOn();
        limitNone();
        limitRange();
        limitFull();
        licenceNone();
        licenceRange();
        licenceTimesThatCantBe();
        licenceFromBehindTo();
        licenceFull();
        feeRange();
        feeOf0IsNone();
        askAnswersOfRefused();
        askNone();
        askRange();
        askFull();
        whyNone();
        whyTheLatest();
        giveRange();
        givenOrTaken();
        rightNone();
        rightRange();
        waiveNone();
        waiveRange();
        waiveState();
        waiveFull();
        countedNone();
        countedRange();
        countedTimeMayLieBack();
        countedTimeDoesNotGoOn();
        d.finish();
    }

    private static RightsLimit withTitle() {
        RightsLimit x = new RightsLimit();
        x.title(0);
        return x;
    }

    /** Promise 1: "No titles, and nothing else" */
    private static void newObjectHasNothing() {
        RightsLimit x = new RightsLimit();
        d.due("no title", x.open(0, true), -1);
        d.due("no licence", x.left(0), -1);
        d.due("no request", Due.request(x, 0, 0), Due.THROWS);
        d.due("no copy", Due.past(x, 1000000000, 0), Due.THROWS);
        d.due("nothing refused", x.why(), -1);
        for (int person = 0; person < 100; person++) {
            for (int what = 0; what < 4; what++) {
                d.due("statistics " + person + " " + what, x.statistics(person, what), 0);
            }
        }
        d.due("numbers begin at 0: title", x.title(0), 0);
        d.due("limit", x.limit(0, 0, 1, 1), 0);
        d.due("licence", x.licence(0, 1, 1, 0, 0), 0);
        d.due("request", x.ask(0, 0, 0, 1, 0), 0);
    }

    /** Promise 1: "the time is 0" */
    private static void newObjectIsAtTime0() {
        RightsLimit x = withTitle();
        d.due("before it", x.ask(0, 0, 0, 1, -1), -2);
        d.due("at it", x.ask(0, 0, 0, 1, 0), 0);
    }

    /** Promise 2: "RANGE if the publisher is not 0 .. 99" */
    private static void titleRange() {
        RightsLimit x = new RightsLimit();
        d.due("-1", x.title(-1), -2);
        d.due("100", x.title(100), -2);
        d.due("MIN", x.title(MIN), -2);
        d.due("MAX", x.title(MAX), -2);
        d.due("these made none", x.title(0), 0);
        d.due("99", x.title(99), 1);
    }

    /** Promise 2: "FULL" */
    private static void titleFull() {
        RightsLimit x = new RightsLimit();
        for (int i = 0; i < 50; i++) {
            d.due("title", x.title(1), i);
        }
        d.due("full", x.title(1), -4);
        d.due("full again", x.title(1), -4);
        d.due("full, but RANGE goes first", x.title(100), -2);
        d.due("it made none", x.open(50, true), -1);
        x.limit(49, 0, 1, 0);
        x.fee(1, 2);
        d.due("the last one is as it was", x.ask(0, 49, 0, 1, 0), 0);
        d.due("of its publisher", Due.request(x, 0, 7), 2);
    }

    /** Promise 3: "1; NONE" */
    private static void openNone() {
        RightsLimit x = withTitle();
        for (int title : new int[] {MIN, -1, 1, 49, 50, MAX}) {
            d.due("open " + title, x.open(title, true), -1);
            d.due("close " + title, x.open(title, false), -1);
        }
        d.due("opened", x.open(0, true), 1);
        d.due("opened again", x.open(0, true), 1);
        d.due("closed", x.open(0, false), 1);
        d.due("closed again", x.open(0, false), 1);
    }

    /** Promise 3: "from now on, for requests that come" */
    private static void openFromNowOn() {
        RightsLimit x = withTitle();
        x.limit(0, 0, 1, 1);
        x.ask(0, 0, 0, 1, 0);
        x.ask(0, 0, 0, 1, 0);
        x.open(0, true);
        d.due("one that came before stays within limits", Due.request(x, 0, 5), 3);
        d.due("and counts", x.counted(0, 0, 1, 0), 1);
        d.due("one that was refused stays so", Due.request(x, 1, 5), 0);
        d.due("one that comes", x.ask(0, 0, 0, 1, 0), 2);
        d.due("is open", Due.request(x, 2, 5), 1);
        x.open(0, false);
        d.due("that one stays open", Due.request(x, 2, 5), 1);
        d.due("and does not count now either", x.counted(0, 0, 1, 0), 1);
        d.due("one that comes then", x.ask(0, 0, 0, 1, 0), -13);
    }

    /** Promise 4: "NONE" */
    private static void limitNone() {
        RightsLimit x = withTitle();
        for (int title : new int[] {MIN, -1, 1, 49, 50, MAX}) {
            d.due("title " + title, x.limit(title, 0, 1, 0), -1);
        }
        d.due("NONE goes before RANGE", x.limit(1, 2, 0, -1), -1);
        d.due("these made none", x.limit(0, 0, 1, 0), 0);
    }

    /** Promise 4: "RANGE if kind is not 0, 1, days not 1 .. 5000, n not 0 .. 1000" */
    private static void limitRange() {
        RightsLimit x = withTitle();
        for (int kind : new int[] {MIN, -1, 2, MAX}) {
            d.due("kind " + kind, x.limit(0, kind, 1, 0), -2);
        }
        for (int days : new int[] {MIN, -1, 0, 5001, MAX}) {
            d.due("days " + days, x.limit(0, 0, days, 0), -2);
        }
        for (int n : new int[] {MIN, -1, 1001, MAX}) {
            d.due("n " + n, x.limit(0, 0, 1, n), -2);
        }
        d.due("none of these limits", x.ask(0, 0, 0, 1, 0), 0);
        d.due("the least", x.limit(0, 0, 1, 0), 0);
        d.due("the most", x.limit(0, 1, 5000, 1000), 1);
    }

    /** Promise 4: "FULL" */
    private static void limitFull() {
        RightsLimit x = withTitle();
        for (int i = 0; i < 100; i++) {
            d.due("limit", x.limit(0, 0, 1, 1), i);
        }
        d.due("full", x.limit(0, 1, 1, 0), -4);
        d.due("full, but NONE goes first", x.limit(1, 0, 1, 0), -1);
        d.due("full, but RANGE goes first", x.limit(0, 0, 0, 0), -2);
        d.due("it limits nothing", x.ask(0, 0, 1, 1, 0), 0);
        d.due("the others are as they were", x.ask(0, 0, 0, 1, 0), 1);
        d.due("all of them", x.ask(0, 0, 0, 1, 0), -12);
    }

    /** Promise 5: "NONE" */
    private static void licenceNone() {
        RightsLimit x = withTitle();
        for (int title : new int[] {MIN, -1, 1, 49, 50, MAX}) {
            d.due("title " + title, x.licence(title, 0, 1, 0, 1), -1);
        }
        d.due("NONE goes before RANGE", x.licence(1, 2, -1, 2, -1), -1);
        d.due("these made none", x.left(0), -1);
    }

    /** Promise 5: "RANGE if kind, n (0 .. 1000) .. can't be" */
    private static void licenceRange() {
        RightsLimit x = withTitle();
        for (int kind : new int[] {MIN, -1, 2, MAX}) {
            d.due("kind " + kind, x.licence(0, kind, 1, 0, 1), -2);
        }
        for (int n : new int[] {MIN, -1, 1001, MAX}) {
            d.due("n " + n, x.licence(0, 0, n, 0, 1), -2);
        }
        d.due("these made none", x.left(0), -1);
        d.due("n 0", x.licence(0, 0, 0, 0, 1), 0);
        d.due("n 1000", x.licence(0, 1, 1000, 0, 1), 1);
        d.due("left 0", x.left(0), 0);
        d.due("left 1000", x.left(1), 1000);
    }

    /** Promise 5: "or times can't be" */
    private static void licenceTimesThatCantBe() {
        RightsLimit x = withTitle();
        d.due("from -1", x.licence(0, 0, 1, -1, 1), -2);
        d.due("from MIN", x.licence(0, 0, 1, MIN, 1), -2);
        d.due("to 1000000001", x.licence(0, 0, 1, 0, 1000000001), -2);
        d.due("to MAX", x.licence(0, 0, 1, 0, MAX), -2);
        d.due("both too early", x.licence(0, 0, 1, -1, -1), -2);
        d.due("both too late", x.licence(0, 0, 1, 1000000001, 1000000001), -2);
        d.due("these made none", x.left(0), -1);
        d.due("0 to 0", x.licence(0, 0, 1, 0, 0), 0);
        d.due("1000000000 to 1000000000", x.licence(0, 0, 1, 1000000000, 1000000000), 1);
        d.due("0 to 1000000000", x.licence(0, 0, 1, 0, 1000000000), 2);
    }

    /** Promise 5: "or from is behind to" */
    private static void licenceFromBehindTo() {
        RightsLimit x = withTitle();
        d.due("a second behind", x.licence(0, 0, 1, 101, 100), -2);
        d.due("far behind", x.licence(0, 0, 1, 1000000000, 0), -2);
        d.due("these made none", x.left(0), -1);
        d.due("the same second", x.licence(0, 0, 1, 100, 100), 0);
        d.due("a second before", x.licence(0, 0, 1, 100, 101), 1);
    }

    /** Promise 5: "FULL" */
    private static void licenceFull() {
        RightsLimit x = withTitle();
        for (int i = 0; i < 50; i++) {
            d.due("licence", x.licence(0, 0, 1, 0, 0), i);
        }
        d.due("full", x.licence(0, 1, 1, 0, 9), -4);
        d.due("full, but NONE goes first", x.licence(1, 0, 1, 0, 9), -1);
        d.due("full, but RANGE goes first", x.licence(0, 0, 1, 9, 0), -2);
        d.due("it made none", x.left(50), -1);
        x.ask(0, 0, 1, 1, 0);
        d.due("none holds for chapters", Due.request(x, 0, 6), -1);
    }

    /** Promise 6: "0 .. 10000 cents .. RANGE" */
    private static void feeRange() {
        RightsLimit x = withTitle();
        x.limit(0, 0, 1, 0);
        for (int publisher : new int[] {MIN, -1, 100, MAX}) {
            d.due("publisher " + publisher, x.fee(publisher, 1), -2);
        }
        for (int cents : new int[] {MIN, -1, 10001, MAX}) {
            d.due("cents " + cents, x.fee(0, cents), -2);
        }
        d.due("none of these is a fee", x.ask(0, 0, 0, 1, 0), -10);
        d.due("the most", x.fee(0, 10000), 1);
        d.due("of the last publisher", x.fee(99, 0), 1);
        d.due("too much", x.fee(0, 10001), -2);
        x.ask(0, 0, 0, 1, 0);
        d.due("leaves the fee", Due.request(x, 1, 7), 10000);
    }

    /** Promise 6: "0 is none (at first)" */
    private static void feeOf0IsNone() {
        RightsLimit x = withTitle();
        x.limit(0, 0, 1, 0);
        d.due("none at first", x.ask(0, 0, 0, 1, 0), -10);
        x.fee(0, 1);
        d.due("the least", x.ask(0, 0, 0, 1, 0), 1);
        d.due("one cent", Due.request(x, 1, 7), 1);
        d.due("0", x.fee(0, 0), 1);
        d.due("is none", x.ask(0, 0, 0, 1, 0), -12);
    }

    /** Promise 7: "its number, if it is allowed; -10 less its number if it is refused" */
    private static void askAnswersOfRefused() {
        RightsLimit x = withTitle();
        x.limit(0, 0, 1, 0);
        d.due("request 0 is refused", x.ask(0, 0, 0, 1, 0), -10);
        d.due("request 1 is allowed", x.ask(0, 0, 1, 1, 0), 1);
        for (int i = 2; i < 299; i++) {
            d.due("refused", x.ask(0, 0, 0, 1, 0), -10 - i);
        }
        d.due("request 299 is refused", x.ask(0, 0, 0, 1, 0), -309);
        d.due("and there", Due.request(x, 299, 5), 0);
    }

    /** Promise 7: "NONE if there is no such title" */
    private static void askNone() {
        RightsLimit x = withTitle();
        for (int title : new int[] {MIN, -1, 1, 49, 50, MAX}) {
            d.due("title " + title, x.ask(0, title, 0, 1, 5), -1);
        }
        d.due("NONE goes before RANGE", x.ask(-1, 1, 2, 0, -1), -1);
        d.due("these are no requests", x.statistics(0, 0), 0);
        d.due("nor did the time go on", x.ask(0, 0, 0, 1, 0), 0);
    }

    /** Promise 7: "RANGE if the person, the kind, pages (1 .. 1000) or the time can't be" */
    private static void askRange() {
        RightsLimit x = withTitle();
        for (int person : new int[] {MIN, -1, 100, MAX}) {
            d.due("person " + person, x.ask(person, 0, 0, 1, 5), -2);
        }
        for (int kind : new int[] {MIN, -1, 2, MAX}) {
            d.due("kind " + kind, x.ask(0, 0, kind, 1, 5), -2);
        }
        for (int pages : new int[] {MIN, -1, 0, 1001, MAX}) {
            d.due("pages " + pages, x.ask(0, 0, 0, pages, 5), -2);
        }
        for (int t : new int[] {MIN, -1, 1000000001, MAX}) {
            d.due("time " + t, x.ask(0, 0, 0, 1, t), -2);
        }
        d.due("none of these is a request", Due.request(x, 0, 0), Due.THROWS);
        d.due("the least", x.ask(0, 0, 0, 1, 0), 0);
        d.due("the most", x.ask(99, 0, 1, 1000, 1000000000), 1);
    }

    /** Promise 7: "FULL" */
    private static void askFull() {
        RightsLimit x = withTitle();
        for (int i = 0; i < 300; i++) {
            x.ask(0, 0, 0, 1, 0);
        }
        x.limit(0, 0, 1, 0);
        d.due("full, though it would be refused", x.ask(0, 0, 0, 1, 0), -4);
        d.due("it is not the latest that was", x.why(), -1);
        x.right(0, 1);
        x.give(0, 1, true);
        x.waive(0, 0);
        d.due("full, though there is a waiver", x.ask(0, 0, 0, 1, 0), -4);
        d.due("it uses none", x.waive(0, 0), 2);
        x.licence(0, 0, 1, 0, 0);
        d.due("full, though there is a licence", x.ask(0, 0, 0, 1, 0), -4);
        d.due("it takes none", x.left(0), 1);
        x.open(0, true);
        d.due("full, though it is open", x.ask(0, 0, 0, 1, 0), -4);
        d.due("full, but NONE goes first", x.ask(0, 1, 0, 1, 0), -1);
        d.due("full, but RANGE goes first", x.ask(0, 0, 0, 0, 0), -2);
        d.due("requests", x.statistics(0, 0), 300);
        d.due("pages", x.statistics(0, 2), 300);
    }

    /** Promise 8: "NONE if none was" */
    private static void whyNone() {
        RightsLimit x = withTitle();
        d.due("no request", x.why(), -1);
        x.limit(0, 0, 1, 1);
        x.ask(0, 0, 0, 1, 0);
        d.due("none that was refused", x.why(), -1);
        x.ask(0, 0, 0, 0, 0);
        x.ask(0, 0, 0, 1, -1);
        x.ask(0, 1, 0, 1, 0);
        d.due("a wrong call is no request", x.why(), -1);
    }

    /** Promise 8: "the latest request that was refused" */
    private static void whyTheLatest() {
        RightsLimit x = withTitle();
        x.limit(0, 0, 1, 0);
        x.limit(0, 1, 1, 0);
        x.ask(0, 0, 1, 1, 0);
        d.due("limit 1", x.why(), 1);
        x.ask(0, 0, 0, 1, 0);
        d.due("limit 0", x.why(), 0);
        x.ask(0, 0, 1, 1, 0);
        d.due("limit 1 again", x.why(), 1);
        x.fee(0, 1);
        x.ask(0, 0, 0, 1, 0);
        d.due("an allowed one leaves it", x.why(), 1);
    }

    /** Promise 9: "A right, 1 .. 9 .. RANGE" */
    private static void giveRange() {
        RightsLimit x = new RightsLimit();
        for (int person : new int[] {MIN, -1, 100, MAX}) {
            d.due("person " + person, x.give(person, 1, true), -2);
        }
        // 33 and 32 + 9 have the bits of rights 1 and 9 where a shift wraps around.
        for (int right : new int[] {MIN, -1, 0, 10, 32, 33, 41, MAX}) {
            d.due("give right " + right, x.give(0, right, true), -2);
        }
        x.title(0);
        for (int right = 1; right <= 9; right++) {
            x.right(0, right);
            d.due("none of these was given " + right, x.waive(0, 0), -3);
        }
        d.due("the least", x.give(0, 1, true), 1);
        d.due("the most", x.give(99, 9, true), 1);
        d.due("a wrong one to take", x.give(99, 41, false), -2);
        d.due("leaves it", x.waive(0, 99), 1);
    }

    /** Promise 9: "is given to a person, or taken" */
    private static void givenOrTaken() {
        RightsLimit x = withTitle();
        x.right(0, 4);
        d.due("taken before it was given", x.give(7, 4, false), 1);
        d.due("not given", x.waive(0, 7), -3);
        d.due("given twice", x.give(7, 4, true) + x.give(7, 4, true), 2);
        d.due("given", x.waive(0, 7), 1);
        d.due("others stay as they were", x.give(7, 3, false), 1);
        d.due("still given", x.waive(0, 7), 2);
        d.due("taken once", x.give(7, 4, false), 1);
        d.due("is taken", x.waive(0, 7), -3);
    }

    /** Promise 10: "NONE" */
    private static void rightNone() {
        RightsLimit x = withTitle();
        for (int title : new int[] {MIN, -1, 1, 49, 50, MAX}) {
            d.due("title " + title, x.right(title, 1), -1);
        }
        d.due("NONE goes before RANGE", x.right(1, 10), -1);
    }

    /** Promise 10: "A title's right, 0 .. 9 .. RANGE" */
    private static void rightRange() {
        RightsLimit x = withTitle();
        x.give(0, 1, true);
        x.give(0, 9, true);
        d.due("1", x.right(0, 1), 1);
        for (int right : new int[] {MIN, -1, 10, 33, MAX}) {
            d.due("right " + right, x.right(0, right), -2);
        }
        d.due("it stays 1", x.waive(0, 0), 1);
        d.due("9", x.right(0, 9), 1);
        d.due("it is 9", x.waive(0, 0), 2);
        d.due("0", x.right(0, 0), 1);
        d.due("it is nobody's", x.waive(0, 0), -3);
    }

    /** Promise 11: "NONE" */
    private static void waiveNone() {
        RightsLimit x = withTitle();
        x.right(0, 1);
        x.give(0, 1, true);
        for (int title : new int[] {MIN, -1, 1, 49, 50, MAX}) {
            d.due("title " + title, x.waive(title, 0), -1);
        }
        d.due("NONE goes before RANGE", x.waive(1, 100), -1);
        d.due("these made none", x.waive(0, 0), 1);
    }

    /** Promise 11: "RANGE" */
    private static void waiveRange() {
        RightsLimit x = withTitle();
        x.right(0, 1);
        x.give(0, 1, true);
        x.give(99, 1, true);
        for (int person : new int[] {MIN, -1, 100, MAX}) {
            d.due("person " + person, x.waive(0, person), -2);
        }
        x.right(0, 0);
        d.due("RANGE goes before STATE", x.waive(0, 100), -2);
        x.right(0, 1);
        d.due("person 0", x.waive(0, 0), 1);
        d.due("person 99", x.waive(0, 99), 2);
    }

    /** Promise 11: "STATE if the person has not its right" */
    private static void waiveState() {
        RightsLimit x = withTitle();
        x.title(0);
        x.right(0, 2);
        x.give(0, 1, true);
        x.give(0, 3, true);
        d.due("other rights", x.waive(0, 0), -3);
        x.give(1, 2, true);
        d.due("another person's", x.waive(0, 0), -3);
        d.due("the other title has none", x.waive(1, 1), -3);
        d.due("these made none", x.waive(0, 1), 1);
        x.give(1, 2, false);
        d.due("no longer", x.waive(0, 1), -3);
    }

    /** Promise 11: "FULL if 20 are left" */
    private static void waiveFull() {
        RightsLimit x = withTitle();
        x.title(0);
        x.right(0, 1);
        x.right(1, 1);
        x.give(0, 1, true);
        for (int i = 1; i <= 20; i++) {
            d.due("waiver", x.waive(0, 0), i);
        }
        d.due("full", x.waive(0, 0), -4);
        d.due("full, but NONE goes first", x.waive(2, 0), -1);
        d.due("full, but RANGE goes first", x.waive(0, -1), -2);
        d.due("full, but STATE goes first", x.waive(0, 1), -3);
        d.due("another title has room", x.waive(1, 0), 1);
        x.limit(0, 0, 1, 0);
        for (int i = 0; i < 20; i++) {
            d.due("twenty copies", x.ask(0, 0, 0, 1, 0), i);
        }
        d.due("and not one more", x.ask(0, 0, 0, 1, 0), -30);
        d.due("room again", x.waive(0, 0), 1);
    }

    /** Promise 14: "NONE" */
    private static void countedNone() {
        RightsLimit x = withTitle();
        for (int title : new int[] {MIN, -1, 1, 49, 50, MAX}) {
            d.due("title " + title, x.counted(title, 0, 1, 0), -1);
        }
        d.due("NONE goes before RANGE", x.counted(1, 2, 0, -1), -1);
    }

    /** Promise 14: "RANGE if kind, days (1 .. 5000) or the time can't be" */
    private static void countedRange() {
        RightsLimit x = withTitle();
        x.ask(0, 0, 0, 1, 0);
        for (int kind : new int[] {MIN, -1, 2, MAX}) {
            d.due("kind " + kind, x.counted(0, kind, 1, 0), -2);
        }
        for (int days : new int[] {MIN, -1, 0, 5001, MAX}) {
            d.due("days " + days, x.counted(0, 0, days, 0), -2);
        }
        for (int t : new int[] {MIN, -1, 1000000001, MAX}) {
            d.due("time " + t, x.counted(0, 0, 1, t), -2);
        }
        d.due("the least", x.counted(0, 0, 1, 0), 1);
        d.due("the most", x.counted(0, 1, 5000, 1000000000), 0);
    }

    /** Promise 14: "(it may lie back)" */
    private static void countedTimeMayLieBack() {
        RightsLimit x = withTitle();
        x.ask(0, 0, 0, 1, 10);
        x.ask(0, 0, 0, 1, 20);
        x.ask(0, 0, 0, 1, 1000000000);
        d.due("at 0", x.counted(0, 0, 1, 0), 0);
        d.due("at 9", x.counted(0, 0, 1, 9), 0);
        d.due("at 10", x.counted(0, 0, 1, 10), 1);
        d.due("at 20", x.counted(0, 0, 1, 20), 2);
        d.due("at 86410", x.counted(0, 0, 1, 86410), 2);
        d.due("at 86411", x.counted(0, 0, 1, 86411), 1);
        d.due("at 86421", x.counted(0, 0, 1, 86421), 0);
        d.due("at the latest time", x.counted(0, 0, 1, 1000000000), 1);
    }

    /** Promise 14: "(the time does not go on by this)" */
    private static void countedTimeDoesNotGoOn() {
        RightsLimit x = withTitle();
        x.ask(0, 0, 0, 1, 10);
        d.due("ahead", x.counted(0, 0, 1, 1000000000), 0);
        d.due("the time is 10", x.ask(0, 0, 0, 1, 10), 1);
        d.due("back", x.counted(0, 0, 1, 0), 0);
        d.due("the time is 10 still", x.ask(0, 0, 0, 1, 9), -2);
    }
}
