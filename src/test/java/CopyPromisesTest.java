/**
 * Promises 12, 13 and 15 to 18: each clause that names a boundary has a test
 * of its own, under its words. A call that is refused leaves everything as it was.
 */
public final class CopyPromisesTest {
    private static final int MIN = Integer.MIN_VALUE;
    private static final int MAX = Integer.MAX_VALUE;
    private static final int TERM = 30 * 86400;
    private static final int LATEST = 1000000000;
    private static final Due d = new Due();

    public static void main(String[] args) {
        renewNone();
        renewRange();
        renewStateRefused();
        renewStateTwice();
        renewStateDeleted();
        renewStateItsEndHasCome();
        renewBehindTheLatestTime();
        deleteBehindItsEnd();
        deleteNone();
        deleteRange();
        deleteStateRefused();
        deleteStateDeleted();
        requestOrMinus1();
        requestByWhat();
        requestNoneSuch();
        requestAnotherWhat();
        leftNone();
        statisticsOfRefused();
        statisticsNone();
        statisticsWrapped();
        pastNotDeleted();
        pastWhoseEndHasCome();
        pastByNumbersFrom0On();
        pastNoneSuch();
        pastOfAFullRow();
        pastTimeMayLieBack();
        d.finish();
    }

    /** Request 0 is a copy of time 100 with a fee of 5 cents, request 1 is refused. */
    private static RightsLimit copyAndRefused() {
        RightsLimit x = new RightsLimit();
        x.title(0);
        x.limit(0, 0, 1, 0);
        x.fee(0, 5);
        d.due("a copy", x.ask(0, 0, 0, 1, 100), 0);
        x.fee(0, 0);
        d.due("a refused one", x.ask(0, 0, 0, 1, 100), -11);
        return x;
    }

    private static void facts(String when, RightsLimit x, int i, int... wants) {
        for (int what = 0; what < wants.length; what++) {
            d.due(when + ": request(" + i + ", " + what + ")", Due.request(x, i, what), wants[what]);
        }
    }

    private static void asTheyWere(RightsLimit x) {
        facts("as it was", x, 0, 0, 0, 0, 1, 100, 5, -1, 5, 100 + TERM, 0, -1);
        facts("as it was", x, 1, 0, 0, 0, 1, 100, 0, -1, 0, -1, 0, -1);
    }

    /** Promise 12: "NONE if there is no such request" */
    private static void renewNone() {
        RightsLimit x = copyAndRefused();
        for (int request : new int[] {MIN, -11, -1, 2, 299, 300, MAX}) {
            d.due("request " + request, x.renew(request, 200), -1);
        }
        d.due("NONE goes before RANGE", x.renew(2, -1), -1);
        d.due("the time did not go on", x.renew(0, 100), 100 + 2 * TERM);
    }

    /** Promise 12: "RANGE" */
    private static void renewRange() {
        RightsLimit x = copyAndRefused();
        for (int t : new int[] {MIN, -1, 0, 99, LATEST + 1, MAX}) {
            d.due("time " + t, x.renew(0, t), -2);
            d.due("RANGE goes before STATE, time " + t, x.renew(1, t), -2);
        }
        asTheyWere(x);
        d.due("at the time that it is", x.renew(0, 100), 100 + 2 * TERM);
    }

    /** Promise 12: "STATE if it was refused" */
    private static void renewStateRefused() {
        RightsLimit x = copyAndRefused();
        d.due("refused", x.renew(1, 100), -3);
        d.due("refused, at the latest time", x.renew(1, LATEST), -3);
        asTheyWere(x);
    }

    /** Promise 12: "renewed twice" */
    private static void renewStateTwice() {
        RightsLimit x = copyAndRefused();
        x.renew(0, 100);
        x.renew(0, 100);
        d.due("renewed twice", x.renew(0, 100), -3);
        facts("as it was", x, 0, 0, 0, 0, 1, 100, 5, -1, 15, 100 + 3 * TERM, 2, -1);
        d.due("its person's cents", x.statistics(0, 3), 15);
    }

    /** Promise 12: "deleted" */
    private static void renewStateDeleted() {
        RightsLimit x = copyAndRefused();
        x.delete(0, 150);
        d.due("deleted", x.renew(0, 150), -3);
        facts("as it was", x, 0, 0, 0, 0, 1, 100, 5, -1, 5, 100 + TERM, 0, 150);
    }

    /** Promise 12: "or its end has come (the time is not below it)" */
    private static void renewStateItsEndHasCome() {
        RightsLimit x = copyAndRefused();
        d.due("at its end", x.renew(0, 100 + TERM), -3);
        d.due("behind it", x.renew(0, 101 + TERM), -3);
        asTheyWere(x);
        RightsLimit y = copyAndRefused();
        d.due("below it", y.renew(0, 99 + TERM), 100 + 2 * TERM);
        d.due("at its next end", y.renew(0, 100 + 2 * TERM), -3);
        RightsLimit z = copyAndRefused();
        z.renew(0, 100);
        d.due("below its next end", z.renew(0, 99 + 2 * TERM), 100 + 3 * TERM);
    }

    /** Promise 12: "its end", where it is no time that a call could be given. */
    private static void renewBehindTheLatestTime() {
        RightsLimit x = new RightsLimit();
        x.title(0);
        x.ask(0, 0, 0, 1, LATEST);
        d.due("once", x.renew(0, LATEST), LATEST + 2 * TERM);
        d.due("twice", x.renew(0, LATEST), LATEST + 3 * TERM);
        d.due("its end has not come", Due.past(x, LATEST, 0), Due.THROWS);
        d.due("nor a second before it", Due.past(x, LATEST + 3 * TERM - 1, 0), Due.THROWS);
        d.due("it comes behind the latest time", Due.past(x, LATEST + 3 * TERM, 0), 0);
        d.due("deleted before its end", x.delete(0, LATEST), 1);
    }

    /** Promise 13: "1, or 0 if it was behind its end (not below it)" */
    private static void deleteBehindItsEnd() {
        RightsLimit x = copyAndRefused();
        d.due("below it", x.delete(0, 99 + TERM), 1);
        d.due("when", Due.request(x, 0, 10), 99 + TERM);
        RightsLimit y = copyAndRefused();
        d.due("at it", y.delete(0, 100 + TERM), 0);
        d.due("when", Due.request(y, 0, 10), 100 + TERM);
        RightsLimit z = copyAndRefused();
        d.due("behind it", z.delete(0, LATEST), 0);
        d.due("when", Due.request(z, 0, 10), LATEST);
        RightsLimit r = copyAndRefused();
        r.renew(0, 100);
        d.due("below the end that it got", r.delete(0, 99 + 2 * TERM), 1);
        RightsLimit s = copyAndRefused();
        s.renew(0, 100);
        d.due("at the end that it got", s.delete(0, 100 + 2 * TERM), 0);
    }

    /** Promise 13: "NONE" */
    private static void deleteNone() {
        RightsLimit x = copyAndRefused();
        for (int request : new int[] {MIN, -11, -1, 2, 299, 300, MAX}) {
            d.due("request " + request, x.delete(request, 200), -1);
        }
        d.due("NONE goes before RANGE", x.delete(2, -1), -1);
        d.due("the time did not go on", x.delete(0, 100), 1);
    }

    /** Promise 13: "RANGE" */
    private static void deleteRange() {
        RightsLimit x = copyAndRefused();
        for (int t : new int[] {MIN, -1, 0, 99, LATEST + 1, MAX}) {
            d.due("time " + t, x.delete(0, t), -2);
            d.due("RANGE goes before STATE, time " + t, x.delete(1, t), -2);
        }
        asTheyWere(x);
        d.due("at the time that it is", x.delete(0, 100), 1);
    }

    /** Promise 13: "STATE if it was refused" */
    private static void deleteStateRefused() {
        RightsLimit x = copyAndRefused();
        d.due("refused", x.delete(1, 100), -3);
        d.due("refused, at the latest time", x.delete(1, LATEST), -3);
        asTheyWere(x);
    }

    /** Promise 13: "or is deleted" */
    private static void deleteStateDeleted() {
        RightsLimit x = copyAndRefused();
        x.delete(0, 150);
        d.due("deleted", x.delete(0, 150), -3);
        d.due("deleted, later", x.delete(0, 160), -3);
        d.due("deleted, behind its end", x.delete(0, LATEST), -3);
        facts("as it was", x, 0, 0, 0, 0, 1, 100, 5, -1, 5, 100 + TERM, 0, 150);
        RightsLimit y = new RightsLimit();
        y.title(0);
        y.ask(0, 0, 0, 1, 0);
        d.due("deleted at time 0", y.delete(0, 0), 1);
        d.due("is deleted, too", y.delete(0, 0), -3);
        d.due("at time 0", Due.request(y, 0, 10), 0);
    }

    /** Promise 15: "6: the licence, or -1 .. 8: its end, or -1 .. 10: when it was deleted, or -1" */
    private static void requestOrMinus1() {
        RightsLimit x = new RightsLimit();
        x.title(0);
        x.limit(0, 0, 1, 0);
        x.licence(0, 0, 1, 0, 0);
        x.ask(0, 0, 0, 1, 0);
        x.ask(0, 0, 0, 1, 0);
        d.due("licence 0", Due.request(x, 0, 6), 0);
        d.due("no licence", Due.request(x, 1, 6), -1);
        d.due("its end", Due.request(x, 0, 8), TERM);
        d.due("no end", Due.request(x, 1, 8), -1);
        d.due("not deleted", Due.request(x, 0, 10), -1);
        x.delete(0, 0);
        d.due("deleted at 0", Due.request(x, 0, 10), 0);
        d.due("its end stays", Due.request(x, 0, 8), TERM);
        d.due("its licence stays", Due.request(x, 0, 6), 0);
    }

    /** Promise 15: "5: by what: 0 refused, 1 OPEN, 2 a licence, 3 within limits, 4 a waiver, 5 a fee" */
    private static void requestByWhat() {
        RightsLimit x = new RightsLimit();
        x.title(0);
        x.limit(0, 0, 1, 1);
        x.licence(0, 0, 1, 0, 0);
        x.right(0, 1);
        x.give(0, 1, true);
        x.waive(0, 0);
        x.fee(0, 1);
        x.open(0, true);
        x.ask(0, 0, 0, 1, 0);
        x.open(0, false);
        for (int i = 1; i < 5; i++) {
            x.ask(0, 0, 0, 1, 0);
        }
        x.fee(0, 0);
        x.ask(0, 0, 0, 1, 0);
        for (int i = 0; i < 6; i++) {
            d.due("by what, request " + i, Due.request(x, i, 5), (i + 1) % 6);
            d.due("cents, request " + i, Due.request(x, i, 7), i == 4 ? 1 : 0);
        }
    }

    /** Promise 15: "NoSuchElementException if there is none such" */
    private static void requestNoneSuch() {
        RightsLimit x = copyAndRefused();
        for (int i : new int[] {MIN, -11, -10, -1, 2, 299, 300, MAX}) {
            for (int what = -1; what <= 11; what++) {
                d.due("request(" + i + ", " + what + ")", Due.request(x, i, what), Due.THROWS);
            }
        }
        asTheyWere(x);
    }

    /** Promise 15: "or for another what" */
    private static void requestAnotherWhat() {
        RightsLimit x = copyAndRefused();
        for (int what : new int[] {MIN, -1, 11, MAX}) {
            d.due("a copy's " + what, Due.request(x, 0, what), Due.THROWS);
            d.due("a refused one's " + what, Due.request(x, 1, what), Due.THROWS);
        }
        asTheyWere(x);
    }

    /** Promise 16: "NONE" */
    private static void leftNone() {
        RightsLimit x = new RightsLimit();
        d.due("there is none", x.left(0), -1);
        x.title(0);
        x.licence(0, 0, 1, 0, 9);
        for (int licence : new int[] {MIN, -1, 1, 49, 50, MAX}) {
            d.due("licence " + licence, x.left(licence), -1);
        }
        d.due("one left", x.left(0), 1);
        x.ask(0, 0, 0, 1, 9);
        d.due("none left is not none such", x.left(0), 0);
    }

    /** Promise 17: "what 0: requests, 1: refused ones, 2: pages allowed" */
    private static void statisticsOfRefused() {
        RightsLimit x = new RightsLimit();
        x.title(0);
        x.limit(0, 0, 1, 0);
        x.ask(99, 0, 0, 1000, 0);
        x.ask(99, 0, 0, 1000, 0);
        d.due("requests", x.statistics(99, 0), 2);
        d.due("all of them refused", x.statistics(99, 1), 2);
        d.due("no pages", x.statistics(99, 2), 0);
        x.ask(99, 0, 1, 1000, 0);
        x.ask(0, 0, 1, 1, 0);
        d.due("requests then", x.statistics(99, 0), 3);
        d.due("refused still", x.statistics(99, 1), 2);
        d.due("pages of the allowed one", x.statistics(99, 2), 1000);
        d.due("none refused to person 0", x.statistics(0, 1), 0);
    }

    /** Promise 17: "NONE for no such person, or another what" */
    private static void statisticsNone() {
        RightsLimit x = copyAndRefused();
        for (int person : new int[] {MIN, -1, 100, MAX}) {
            for (int what = -1; what <= 4; what++) {
                d.due("statistics(" + person + ", " + what + ")", x.statistics(person, what), -1);
            }
        }
        for (int what : new int[] {MIN, -1, 4, MAX}) {
            d.due("another what " + what, x.statistics(0, what), -1);
        }
        int[] wants = {2, 1, 1, 5};
        for (int what = 0; what < 4; what++) {
            d.due("person 0, what " + what, x.statistics(0, what), wants[what]);
            d.due("person 99, who asked nothing, what " + what, x.statistics(99, what), 0);
        }
    }

    /** Promise 17: "3: cents in all (wrapped into an int)" */
    private static void statisticsWrapped() {
        RightsLimit x = new RightsLimit();
        x.title(0);
        x.limit(0, 0, 1, 0);
        x.fee(0, 10000);
        for (int i = 0; i < 214; i++) {
            x.ask(0, 0, 0, 1000, 0);
        }
        x.ask(0, 0, 0, 748, 0);
        d.due("2147480000", x.statistics(0, 3), 2147480000);
        x.fee(0, 3647);
        x.ask(0, 0, 0, 1, 0);
        d.due("the most that an int holds", x.statistics(0, 3), MAX);
        x.fee(0, 1);
        x.ask(0, 0, 0, 1, 0);
        d.due("one more", x.statistics(0, 3), MIN);
        x.renew(216, 0);
        d.due("and by a renewal", x.statistics(0, 3), MIN + 1);
        x.fee(0, 10000);
        for (int i = 0; i < 83; i++) {
            x.ask(0, 0, 0, 1000, 0);
        }
        for (int i = 0; i < 132; i++) {
            x.renew(i, 0);
        }
        d.due("wrapped past 0", x.statistics(0, 3), (int) (2147483649L + 215 * 10000000L));
    }

    /** Promise 18: "Of copies that are not deleted" */
    private static void pastNotDeleted() {
        RightsLimit x = copyAndRefused();
        x.ask(0, 0, 1, 1, 100);
        d.due("the first", Due.past(x, LATEST, 0), 0);
        d.due("the second: the refused one is no copy", Due.past(x, LATEST, 1), 2);
        x.delete(0, 100);
        d.due("the first that is not deleted", Due.past(x, LATEST, 0), 2);
        d.due("no second", Due.past(x, LATEST, 1), Due.THROWS);
        x.delete(2, LATEST);
        d.due("deleted behind its end", Due.past(x, LATEST, 0), Due.THROWS);
    }

    /** Promise 18: "whose end has come at a time" */
    private static void pastWhoseEndHasCome() {
        RightsLimit x = copyAndRefused();
        d.due("a second before", Due.past(x, 99 + TERM, 0), Due.THROWS);
        d.due("at its end", Due.past(x, 100 + TERM, 0), 0);
        d.due("behind it", Due.past(x, 101 + TERM, 0), 0);
        x.renew(0, 100);
        d.due("not at its end before", Due.past(x, 100 + TERM, 0), Due.THROWS);
        d.due("a second before its next end", Due.past(x, 99 + 2 * TERM, 0), Due.THROWS);
        d.due("at its next end", Due.past(x, 100 + 2 * TERM, 0), 0);
    }

    /** Promise 18: "the i-th by numbers, from 0 on" */
    private static void pastByNumbersFrom0On() {
        RightsLimit x = new RightsLimit();
        x.title(0);
        for (int i = 0; i < 5; i++) {
            x.ask(0, 0, 0, 1, i);
        }
        x.renew(1, 4);
        x.renew(0, 4);
        d.due("ends of 2, 3, 4 have come: 0", Due.past(x, 4 + TERM, 0), 2);
        d.due("1", Due.past(x, 4 + TERM, 1), 3);
        d.due("2", Due.past(x, 4 + TERM, 2), 4);
        d.due("3", Due.past(x, 4 + TERM, 3), Due.THROWS);
        for (int i = 0; i < 5; i++) {
            d.due("by numbers, not by ends", Due.past(x, 4 + 2 * TERM, i), i);
        }
    }

    /** Promise 18: "NoSuchElementException if there is none such" */
    private static void pastNoneSuch() {
        RightsLimit x = copyAndRefused();
        for (int i : new int[] {MIN, -1, 1, 299, 300, MAX}) {
            d.due("i " + i, Due.past(x, LATEST, i), Due.THROWS);
        }
        d.due("before every end", Due.past(x, 0, 0), Due.THROWS);
        d.due("-1: before every end", Due.past(x, -1, 0), Due.THROWS);
        d.due("MIN: before every end", Due.past(x, MIN, 0), Due.THROWS);
        d.due("there is one", Due.past(x, LATEST, 0), 0);
        asTheyWere(x);
    }

    private static void pastOfAFullRow() {
        RightsLimit x = new RightsLimit();
        x.title(0);
        for (int i = 0; i < 300; i++) {
            x.ask(0, 0, 0, 1, i);
        }
        d.due("the last of 300", Due.past(x, LATEST, 299), 299);
        d.due("no 300th, counted from 0", Due.past(x, LATEST, 300), Due.THROWS);
        d.due("its end has not come", Due.past(x, 298 + TERM, 299), Due.THROWS);
    }

    /** Promise 18: "(the time may lie back)" */
    private static void pastTimeMayLieBack() {
        RightsLimit x = copyAndRefused();
        x.ask(0, 0, 1, 1, 200);
        x.ask(0, 0, 1, 1, LATEST);
        d.due("far back", Due.past(x, 100 + TERM, 0), 0);
        d.due("one of two", Due.past(x, 199 + TERM, 1), Due.THROWS);
        d.due("both", Due.past(x, 200 + TERM, 1), 2);
        d.due("the time is as it was", x.ask(0, 0, 1, 1, LATEST - 1), -2);
    }
}
