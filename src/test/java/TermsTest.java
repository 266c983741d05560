/** The section "Terms": each sentence that names a boundary has a test of its own, under its words. */
public final class TermsTest {
    private static final int DAY = 86400;
    private static final int TERM = 30 * DAY;
    private static final Due d = new Due();

    public static void main(String[] args) {
        titlesAre0To49();
        publishersAre0To99();
        titlesAreNotOpenAtFirst();
        kindsAre0And1();
        timesAre0To1000000000();
        aDayHas86400();
        timeNeverGoesBack();
        givenAndNotRefusedFor();
        limitsAre0To99();
        fewerThanN();
        limitOfNone();
        limitThatIsNeverReached();
        spanFromThatSecondToo();
        spanToT();
        spanFromBeforeTime0();
        spanOfThisTitleAndKind();
        licencesAre0To49();
        bothTimesBelongToALicence();
        eachCopyTakesOne();
        requestsAre0To299();
        personsAre0To99();
        openCountsForNothing();
        firstLicenceByNumbers();
        licenceCountsForThatAlone();
        withinAllLimits();
        eachWaiverIsForOneCopy();
        feeBeyondLimits();
        refusedIsARequestToo();
        whyIsTheFirstLimitByNumbers();
        endsAfter30Days();
        renewedBeforeThat();
        renewedFromItsEndOn();
        renewedAtMostTwice();
        renewedForItsFee();
        deletedCountsOn();
        rightsAre1To9();
        right0IsNobody();
        d.finish();
    }

    /** An object with a title of publisher 0 and a limit 0 on its articles. */
    private static RightsLimit articles(int days, int n) {
        RightsLimit x = new RightsLimit();
        x.title(0);
        x.limit(0, 0, days, n);
        return x;
    }

    private static int article(RightsLimit x, int t) {
        return x.ask(0, 0, 0, 1, t);
    }

    /** "TITLES are 0 .. 49" */
    private static void titlesAre0To49() {
        RightsLimit x = new RightsLimit();
        for (int i = 0; i < 50; i++) {
            d.due("title " + i, x.title(0), i);
        }
        d.due("a title 50", x.title(0), -4);
        d.due("title 49 is there", x.open(49, false), 1);
        d.due("title 50 is not", x.open(50, false), -1);
    }

    /** "each of a PUBLISHER 0 .. 99" */
    private static void publishersAre0To99() {
        RightsLimit x = new RightsLimit();
        x.title(0);
        x.title(99);
        x.limit(0, 0, 1, 0);
        x.limit(1, 0, 1, 0);
        x.fee(99, 1);
        d.due("publisher 0 has no fee", x.ask(0, 0, 0, 1, 0), -10);
        d.due("publisher 99 has one", x.ask(0, 1, 0, 1, 0), 1);
    }

    /** "OPEN or not (not at first)" */
    private static void titlesAreNotOpenAtFirst() {
        RightsLimit x = new RightsLimit();
        for (int i = 0; i < 50; i++) {
            x.title(i);
            d.due("allowed", x.ask(0, i, 0, 1, 0), i);
            d.due("but not as an open title " + i, Due.request(x, i, 5), 3);
        }
    }

    /** "KINDS are 0 article, 1 chapter." */
    private static void kindsAre0And1() {
        RightsLimit x = new RightsLimit();
        x.title(0);
        d.due("kind -1", x.ask(0, 0, -1, 1, 0), -2);
        d.due("kind 0", x.ask(0, 0, 0, 1, 0), 0);
        d.due("kind 1", x.ask(0, 0, 1, 1, 0), 1);
        d.due("kind 2", x.ask(0, 0, 2, 1, 0), -2);
        d.due("an article", Due.request(x, 0, 2), 0);
        d.due("a chapter", Due.request(x, 1, 2), 1);
    }

    /** "TIMES are seconds, 0 .. 1000000000" */
    private static void timesAre0To1000000000() {
        RightsLimit x = new RightsLimit();
        x.title(0);
        d.due("time -1", article(x, -1), -2);
        d.due("time MIN", article(x, Integer.MIN_VALUE), -2);
        d.due("time 0", article(x, 0), 0);
        d.due("time 1000000001", article(x, 1000000001), -2);
        d.due("time MAX", article(x, Integer.MAX_VALUE), -2);
        d.due("time 1000000000", article(x, 1000000000), 1);
        d.due("time 1000000000 again", article(x, 1000000000), 2);
        d.due("time 999999999 lies back", article(x, 999999999), -2);
    }

    /** "a day has 86400" */
    private static void aDayHas86400() {
        RightsLimit x = articles(1, 1);
        d.due("a copy", article(x, 0), 0);
        d.due("86399 seconds later", article(x, 86399), -11);
        d.due("86400 seconds later", article(x, 86400), -12);
        d.due("86401 seconds later", article(x, 86401), 3);
    }

    /** "Time never goes back: a time below the greatest one .. is out of range." */
    private static void timeNeverGoesBack() {
        RightsLimit x = new RightsLimit();
        x.title(0);
        article(x, 10);
        d.due("ask below", article(x, 9), -2);
        d.due("ask not below", article(x, 10), 1);
        d.due("renew below", x.renew(0, 9), -2);
        d.due("renew not below", x.renew(0, 10), 2 * TERM + 10);
        d.due("delete below", x.delete(0, 9), -2);
        d.due("delete not below", x.delete(0, 10), 1);
        x.renew(1, 20);
        d.due("below a renewal's", x.delete(1, 19), -2);
        x.delete(1, 30);
        d.due("below a deletion's", article(x, 29), -2);
        d.due("not below it", article(x, 30), 2);
        d.due("far below", article(x, 0), -2);
    }

    /** "that a call was given (and not refused for)" */
    private static void givenAndNotRefusedFor() {
        RightsLimit x = new RightsLimit();
        x.title(0);
        article(x, 10);
        article(x, 1000000001);
        x.renew(0, 1000000001);
        x.delete(0, Integer.MAX_VALUE);
        d.due("refused for its time", article(x, 10), 1);
        x.limit(0, 1, 1, 0);
        d.due("a refused request", x.ask(0, 0, 1, 1, 20), -12);
        d.due("was given its time", article(x, 19), -2);
        d.due("goes on from there", article(x, 20), 3);
    }

    /** "LIMITS, 0 .. 99" */
    private static void limitsAre0To99() {
        RightsLimit x = new RightsLimit();
        x.title(0);
        for (int i = 0; i < 99; i++) {
            d.due("limit " + i, x.limit(0, 0, 1, 1), i);
        }
        d.due("limit 99", x.limit(0, 1, 1, 0), 99);
        d.due("a limit 100", x.limit(0, 1, 1, 0), -4);
        x.ask(0, 0, 1, 1, 0);
        d.due("limit 99 holds", x.why(), 99);
    }

    /** "within it if fewer than N COUNT in its span" */
    private static void fewerThanN() {
        RightsLimit x = articles(1, 3);
        d.due("none: fewer", article(x, 0), 0);
        d.due("one: fewer", article(x, 0), 1);
        d.due("two: fewer", article(x, 0), 2);
        d.due("three: not fewer", article(x, 0), -13);
        d.due("a refused one does not count", article(x, 0), -14);
        d.due("three count", x.counted(0, 0, 1, 0), 3);
    }

    private static void limitOfNone() {
        RightsLimit x = articles(1, 0);
        d.due("never fewer than 0", article(x, 0), -10);
        d.due("nor later", article(x, 1000000000), -11);
    }

    private static void limitThatIsNeverReached() {
        RightsLimit x = articles(5000, 1000);
        for (int i = 0; i < 300; i++) {
            d.due("always fewer than 1000", article(x, 0), i);
        }
        d.due("all of them count", x.counted(0, 0, 5000, 0), 300);
    }

    /** "at times from t - DAYS * 86400 (that second too)" */
    private static void spanFromThatSecondToo() {
        RightsLimit x = articles(7, 1);
        article(x, 1000);
        d.due("that second", article(x, 1000 + 7 * DAY), -11);
        d.due("counted at that second", x.counted(0, 0, 7, 1000 + 7 * DAY), 1);
        d.due("counted behind it", x.counted(0, 0, 7, 1001 + 7 * DAY), 0);
        d.due("the second behind it", article(x, 1001 + 7 * DAY), 2);
        RightsLimit y = articles(5000, 1);
        article(y, 1000);
        d.due("that second, 5000 days", article(y, 1000 + 5000 * DAY), -11);
        d.due("behind it, 5000 days", article(y, 1001 + 5000 * DAY), 2);
    }

    /** "to t" */
    private static void spanToT() {
        RightsLimit x = articles(1, 2);
        article(x, 1000);
        article(x, 1001);
        d.due("t too", article(x, 1001), -12);
        d.due("counted to t", x.counted(0, 0, 1, 1001), 2);
        d.due("not behind t", x.counted(0, 0, 1, 1000), 1);
    }

    private static void spanFromBeforeTime0() {
        RightsLimit x = articles(5000, 1);
        article(x, 0);
        d.due("a span that begins before time 0", article(x, 0), -11);
        d.due("counted", x.counted(0, 0, 5000, 0), 1);
        d.due("a second behind time 0", article(x, 1), -12);
    }

    /** "those of this title and kind" */
    private static void spanOfThisTitleAndKind() {
        RightsLimit x = articles(1, 1);
        x.title(0);
        x.limit(0, 1, 1, 1);
        x.limit(1, 0, 1, 1);
        d.due("an article", x.ask(0, 0, 0, 1, 0), 0);
        d.due("a chapter of it", x.ask(0, 0, 1, 1, 0), 1);
        d.due("another title's article", x.ask(0, 1, 0, 1, 0), 2);
        d.due("a second article", x.ask(0, 0, 0, 1, 0), -13);
        d.due("a second chapter", x.ask(0, 0, 1, 1, 0), -14);
        d.due("the other's second article", x.ask(0, 1, 0, 1, 0), -15);
        d.due("the other's chapter has no limit", x.ask(0, 1, 1, 1, 0), 6);
    }

    /** "LICENCES, 0 .. 49" */
    private static void licencesAre0To49() {
        RightsLimit x = new RightsLimit();
        x.title(0);
        for (int i = 0; i < 50; i++) {
            d.due("licence " + i, x.licence(0, 0, i == 49 ? 1 : 0, 0, 0), i);
        }
        d.due("a licence 50", x.licence(0, 0, 1, 0, 0), -4);
        article(x, 0);
        d.due("licence 49 holds", Due.request(x, 0, 6), 49);
        d.due("no licence 50", x.left(50), -1);
    }

    /** "from a time to one (both belong to it)" */
    private static void bothTimesBelongToALicence() {
        RightsLimit x = articles(1, 0);
        x.licence(0, 0, 1000, 50, 60);
        d.due("before its first second", article(x, 49), -10);
        d.due("its first second", article(x, 50), 1);
        d.due("its last second", article(x, 60), 2);
        d.due("behind its last second", article(x, 61), -13);
        RightsLimit y = articles(1, 0);
        y.licence(0, 0, 1000, 50, 50);
        d.due("before its only second", article(y, 49), -10);
        d.due("its only second", article(y, 50), 1);
        d.due("behind its only second", article(y, 51), -12);
    }

    /** "for N copies; each copy that is made by it takes one" */
    private static void eachCopyTakesOne() {
        RightsLimit x = articles(1, 0);
        x.licence(0, 0, 0, 0, 9);
        x.licence(0, 0, 2, 0, 9);
        d.due("one for no copies makes none", article(x, 0), 0);
        d.due("by the other one", Due.request(x, 0, 6), 1);
        d.due("one left", x.left(1), 1);
        d.due("the last one", article(x, 0), 1);
        d.due("none left", x.left(1), 0);
        d.due("no third", article(x, 0), -12);
        d.due("not below none", x.left(1), 0);
        d.due("nor of the first", x.left(0), 0);
    }

    /** "A REQUEST, 0 .. 299" */
    private static void requestsAre0To299() {
        RightsLimit x = new RightsLimit();
        x.title(0);
        for (int i = 0; i < 300; i++) {
            d.due("request " + i, article(x, 5), i);
        }
        d.due("a request 300", article(x, 5), -4);
        d.due("request 299 is there", Due.request(x, 299, 4), 5);
        d.due("request 300 is not", Due.request(x, 300, 4), Due.THROWS);
        d.due("nothing counts for it", x.counted(0, 0, 1, 5), 300);
        d.due("nor for its person", x.statistics(0, 0), 300);
        d.due("299 is renewed", x.renew(299, 5), 5 + 2 * TERM);
        d.due("299 is deleted", x.delete(299, 5), 1);
        d.due("a deleted one makes no room", article(x, 5), -4);
    }

    /** "by a PERSON 0 .. 99, of so many pages" */
    private static void personsAre0To99() {
        RightsLimit x = new RightsLimit();
        x.title(0);
        d.due("person -1", x.ask(-1, 0, 0, 1, 0), -2);
        d.due("person 100", x.ask(100, 0, 0, 1, 0), -2);
        d.due("person 0", x.ask(0, 0, 0, 1, 0), 0);
        d.due("person 99", x.ask(99, 0, 0, 1000, 0), 1);
        d.due("pages of 0", x.statistics(0, 2), 1);
        d.due("pages of 99", x.statistics(99, 2), 1000);
    }

    /** "of an OPEN title: allowed, and it counts for nothing" */
    private static void openCountsForNothing() {
        RightsLimit x = articles(1, 1);
        x.licence(0, 0, 1, 0, 0);
        x.right(0, 1);
        x.give(0, 1, true);
        x.waive(0, 0);
        x.fee(0, 5);
        x.open(0, true);
        for (int i = 0; i < 5; i++) {
            d.due("allowed", article(x, 0), i);
            d.due("as an open title", Due.request(x, i, 5), 1);
        }
        d.due("not for limits", x.counted(0, 0, 1, 0), 0);
        d.due("not for the licence", x.left(0), 1);
        d.due("not for a waiver", x.waive(0, 0), 2);
        d.due("nor for a fee", x.statistics(0, 3), 0);
        d.due("it is a copy", Due.past(x, TERM, 4), 4);
    }

    /** "Else by the first licence, by numbers, .. that holds at that time and has copies left" */
    private static void firstLicenceByNumbers() {
        RightsLimit x = new RightsLimit();
        x.title(0);
        x.title(0);
        x.licence(1, 0, 1, 0, 9);
        x.licence(0, 1, 1, 0, 9);
        x.licence(0, 0, 1, 1, 9);
        x.licence(0, 0, 0, 0, 9);
        x.licence(0, 0, 1, 0, 9);
        x.licence(0, 0, 1, 0, 9);
        article(x, 0);
        d.due("of its title, kind and time, with copies left", Due.request(x, 0, 6), 4);
        article(x, 0);
        d.due("the next one", Due.request(x, 1, 6), 5);
        article(x, 1);
        d.due("an earlier one that holds now", Due.request(x, 2, 6), 2);
        article(x, 1);
        d.due("none is left", Due.request(x, 3, 6), -1);
        d.due("nor taken of another title", x.left(0), 1);
        d.due("nor of another kind", x.left(1), 1);
    }

    /** "allowed, and it counts for that" */
    private static void licenceCountsForThatAlone() {
        RightsLimit x = articles(1, 1);
        x.licence(0, 0, 2, 0, 0);
        article(x, 0);
        article(x, 0);
        d.due("not for limits", x.counted(0, 0, 1, 0), 0);
        d.due("so within them still", article(x, 0), 2);
        d.due("counts for limits", x.counted(0, 0, 1, 0), 1);
        d.due("then no more", article(x, 0), -13);
    }

    /** "Else if it is within all limits of its title and kind" */
    private static void withinAllLimits() {
        RightsLimit x = new RightsLimit();
        x.title(0);
        article(x, 0);
        d.due("within all, if there are none", Due.request(x, 0, 5), 3);
        x.limit(0, 0, 1, 2);
        x.limit(0, 0, 1, 1);
        d.due("within one, not the other", article(x, 0), -11);
        RightsLimit y = articles(1, 1);
        y.limit(0, 0, 1, 2);
        article(y, 0);
        d.due("within the other, not the one", article(y, 0), -11);
    }

    /** "if there is a WAIVER of the title left (each is for one copy): allowed, counts for limits" */
    private static void eachWaiverIsForOneCopy() {
        RightsLimit x = articles(1, 0);
        x.right(0, 9);
        x.give(99, 9, true);
        d.due("one", x.waive(0, 99), 1);
        d.due("two", x.waive(0, 99), 2);
        d.due("the first copy", article(x, 0), 0);
        d.due("by a waiver", Due.request(x, 0, 5), 4);
        d.due("counts", x.counted(0, 0, 1, 0), 1);
        d.due("the second copy", article(x, 0), 1);
        d.due("counts too", x.counted(0, 0, 1, 0), 2);
        d.due("none is left", article(x, 0), -12);
        d.due("one more", x.waive(0, 99), 1);
    }

    /** "if its publisher has a FEE per page: allowed for pages * fee cents, and it counts for limits" */
    private static void feeBeyondLimits() {
        RightsLimit x = articles(1, 1);
        x.fee(0, 1);
        d.due("within limits", x.ask(0, 0, 0, 1000, 0), 0);
        d.due("for nothing", Due.request(x, 0, 7), 0);
        d.due("beyond them", x.ask(0, 0, 0, 1000, 0), 1);
        d.due("by the fee", Due.request(x, 1, 5), 5);
        d.due("for pages * fee", Due.request(x, 1, 7), 1000);
        d.due("counts", x.counted(0, 0, 1, 0), 2);
        x.fee(0, 10000);
        x.ask(0, 0, 0, 1000, 0);
        d.due("the most", Due.request(x, 2, 7), 10000000);
    }

    /** "Else REFUSED: it is a request, too, counts for nothing" */
    private static void refusedIsARequestToo() {
        RightsLimit x = articles(1, 1);
        article(x, 0);
        d.due("refused", article(x, 0), -11);
        d.due("it has a number", Due.request(x, 1, 5), 0);
        d.due("among its person's", x.statistics(0, 0), 2);
        d.due("counts for nothing", x.counted(0, 0, 1, 0), 1);
        d.due("no pages", x.statistics(0, 2), 1);
        d.due("has no end", Due.request(x, 1, 8), -1);
        d.due("is no copy", Due.past(x, 1000000000, 1), Due.THROWS);
        d.due("the next number", article(x, DAY + 1), 2);
    }

    /** "WHY is the first limit, by numbers, that it is not within" */
    private static void whyIsTheFirstLimitByNumbers() {
        RightsLimit x = articles(2, 2);
        x.limit(0, 1, 1, 0);
        x.limit(0, 0, 1, 1);
        x.limit(0, 0, 1, 1);
        article(x, 0);
        d.due("not within 2 and 3", article(x, 0), -11);
        d.due("the first of them", x.why(), 2);
        article(x, DAY + 1);
        d.due("not within 0, 2 and 3", article(x, DAY + 1), -13);
        d.due("the first of these", x.why(), 0);
    }

    /** "a COPY until it ENDS: 30 days after its time, at first" */
    private static void endsAfter30Days() {
        RightsLimit x = new RightsLimit();
        x.title(0);
        article(x, 0);
        article(x, 1000000000);
        d.due("30 days after 0", Due.request(x, 0, 8), 2592000);
        d.due("30 days after the latest time", Due.request(x, 1, 8), 1002592000);
        d.due("not yet", Due.past(x, 2591999, 0), Due.THROWS);
        d.due("it has come", Due.past(x, 2592000, 0), 0);
    }

    /** "it may be RENEWED before that" */
    private static void renewedBeforeThat() {
        RightsLimit x = new RightsLimit();
        x.title(0);
        article(x, 0);
        article(x, 0);
        d.due("a second before", x.renew(0, TERM - 1), 2 * TERM);
        d.due("not at its end", x.renew(1, TERM), -3);
        d.due("a second before the next end", x.renew(0, 2 * TERM - 1), 3 * TERM);
    }

    /** "by 30 days more from its end on" */
    private static void renewedFromItsEndOn() {
        RightsLimit x = new RightsLimit();
        x.title(0);
        article(x, 7);
        d.due("from its end, not from now", x.renew(0, 1000), 7 + 2 * TERM);
        d.due("and so again", x.renew(0, 1000), 7 + 3 * TERM);
    }

    /** "at most twice" */
    private static void renewedAtMostTwice() {
        RightsLimit x = new RightsLimit();
        x.title(0);
        article(x, 0);
        d.due("once", x.renew(0, 0), 2 * TERM);
        d.due("twice", x.renew(0, 0), 3 * TERM);
        d.due("not thrice", x.renew(0, 0), -3);
        d.due("twice it was", Due.request(x, 0, 9), 2);
        d.due("its end", Due.request(x, 0, 8), 3 * TERM);
    }

    /** "for its fee once more if it had one" */
    private static void renewedForItsFee() {
        RightsLimit x = articles(1, 1);
        article(x, 0);
        x.fee(0, 7);
        article(x, 0);
        x.renew(0, 0);
        x.renew(1, 0);
        d.due("it had none", Due.request(x, 0, 7), 0);
        d.due("it had one", Due.request(x, 1, 7), 14);
        x.renew(1, 0);
        d.due("twice", Due.request(x, 1, 7), 21);
        x.renew(1, 0);
        d.due("no more", Due.request(x, 1, 7), 21);
    }

    /** "DELETED marks that a copy was deleted, behind its end or before: it counts on all the same" */
    private static void deletedCountsOn() {
        RightsLimit x = articles(31, 2);
        article(x, 0);
        article(x, 0);
        d.due("before its end", x.delete(0, TERM - 1), 1);
        d.due("behind its end", x.delete(1, TERM), 0);
        d.due("both count", x.counted(0, 0, 31, TERM), 2);
        d.due("so not within", article(x, TERM), -12);
        d.due("till their span ends", article(x, 31 * DAY), -13);
        d.due("then within", article(x, 31 * DAY + 1), 4);
        d.due("their pages stay", x.statistics(0, 2), 3);
    }

    /** "RIGHTS 1 .. 9 are given to persons or not (none at first)" */
    private static void rightsAre1To9() {
        RightsLimit x = new RightsLimit();
        x.title(0);
        for (int right = 1; right <= 9; right++) {
            x.right(0, right);
            d.due("none at first " + right, x.waive(0, 0), -3);
            x.give(0, right, true);
            d.due("given " + right, x.waive(0, 0), right);
            x.give(0, right, false);
            d.due("taken " + right, x.waive(0, 0), -3);
        }
        d.due("right 0", x.give(0, 0, true), -2);
        d.due("right 10", x.give(0, 10, true), -2);
    }

    /** "a waiver can only be made by a person that has the title's RIGHT (0: nobody; at first)" */
    private static void right0IsNobody() {
        RightsLimit x = new RightsLimit();
        x.title(0);
        for (int right = 1; right <= 9; right++) {
            x.give(0, right, true);
        }
        d.due("nobody at first", x.waive(0, 0), -3);
        x.right(0, 5);
        d.due("one that has it", x.waive(0, 0), 1);
        d.due("not one that has it not", x.waive(0, 1), -3);
        x.right(0, 0);
        d.due("nobody again", x.waive(0, 0), -3);
    }
}
