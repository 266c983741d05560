/** Promises 9 give, 10 right and 11 waive. */
public final class RightsTest {
    private static final Due d = new Due();

    public static void main(String[] args) {
        give();
        right();
        wrongWaivers();
        roomForWaivers();
        waiversAreUsed();
        d.finish();
    }

    private static void give() {
        RightsLimit x = new RightsLimit();
        d.due("give(-1, 1)", x.give(-1, 1, true), -2);
        d.due("give(100, 1)", x.give(100, 1, true), -2);
        d.due("give(0, 0)", x.give(0, 0, true), -2);
        d.due("give(0, 10)", x.give(0, 10, true), -2);
        d.due("give(0, -1)", x.give(0, -1, false), -2);
        d.due("give(0, 33)", x.give(0, 33, true), -2);
        x.title(0);
        for (int right = 1; right <= 9; right++) {
            x.right(0, right);
            d.due("none at first, " + right, x.waive(0, 99), -3);
            d.due("give " + right, x.give(99, right, true), 1);
            d.due("given " + right, x.waive(0, 99), 2 * right - 1);
            d.due("given again " + right, x.give(99, right, true), 1);
            d.due("still given " + right, x.waive(0, 99), 2 * right);
            d.due("not to others " + right, x.waive(0, 98), -3);
        }
        d.due("take 9", x.give(99, 9, false), 1);
        d.due("taken", x.waive(0, 99), -3);
        d.due("take 9 again", x.give(99, 9, false), 1);
        d.due("still taken", x.waive(0, 99), -3);
        x.right(0, 8);
        d.due("the others stay", x.waive(0, 99), 19);
    }

    private static void right() {
        RightsLimit x = new RightsLimit();
        d.due("no title", x.right(0, 1), -1);
        d.due("NONE before RANGE", x.right(0, 10), -1);
        x.title(0);
        x.title(0);
        d.due("right(-1, 1)", x.right(-1, 1), -1);
        d.due("right(2, 1)", x.right(2, 1), -1);
        d.due("right(0, -1)", x.right(0, -1), -2);
        d.due("right(0, 10)", x.right(0, 10), -2);
        for (int right = 1; right <= 9; right++) {
            x.give(5, right, true);
        }
        d.due("nobody at first", x.waive(0, 5), -3);
        d.due("right(0, 9)", x.right(0, 9), 1);
        d.due("then one with it", x.waive(0, 5), 1);
        d.due("the other title's is its own", x.waive(1, 5), -3);
        d.due("right(0, 0)", x.right(0, 0), 1);
        d.due("nobody again", x.waive(0, 5), -3);
        d.due("a wrong right", x.right(0, 10), -2);
        x.right(0, 1);
        d.due("what was made is left", x.waive(0, 5), 2);
    }

    private static void wrongWaivers() {
        RightsLimit x = new RightsLimit();
        x.title(0);
        x.right(0, 1);
        x.give(0, 2, true);
        d.due("no title 1", x.waive(1, 0), -1);
        d.due("no title -1", x.waive(-1, 0), -1);
        d.due("NONE before RANGE", x.waive(1, 100), -1);
        d.due("person -1", x.waive(0, -1), -2);
        d.due("person 100", x.waive(0, 100), -2);
        d.due("another right", x.waive(0, 0), -3);
    }

    private static void roomForWaivers() {
        RightsLimit x = new RightsLimit();
        x.title(0);
        x.title(0);
        x.right(0, 1);
        x.right(1, 1);
        x.give(0, 1, true);
        for (int i = 1; i <= 20; i++) {
            d.due("waiver " + i, x.waive(0, 0), i);
        }
        d.due("waiver 21", x.waive(0, 0), -4);
        d.due("STATE before FULL", x.waive(0, 1), -3);
        d.due("RANGE before FULL", x.waive(0, 100), -2);
        d.due("the other title's are its own", x.waive(1, 0), 1);
        x.limit(0, 0, 1, 0);
        x.ask(0, 0, 0, 1, 0);
        d.due("one was used: room again", x.waive(0, 0), 20);
        d.due("and full again", x.waive(0, 0), -4);
    }

    private static void waiversAreUsed() {
        RightsLimit x = new RightsLimit();
        x.title(0);
        x.title(0);
        x.limit(0, 0, 1, 1);
        x.limit(0, 1, 1, 0);
        x.limit(1, 0, 1, 0);
        x.right(0, 1);
        x.give(0, 1, true);
        x.waive(0, 0);
        x.waive(0, 0);
        d.due("within: no waiver is used", x.ask(7, 0, 0, 1, 0), 0);
        d.due("the other title", x.ask(7, 1, 0, 1, 0), -11);
        x.give(0, 1, false);
        x.right(0, 0);
        d.due("a waiver, for anybody", x.ask(8, 0, 0, 1, 0), 2);
        d.due("by a waiver", Due.request(x, 2, 5), 4);
        d.due("for either kind", x.ask(8, 0, 1, 1, 0), 3);
        d.due("by a waiver too", Due.request(x, 3, 5), 4);
        d.due("each is for one copy", x.ask(8, 0, 0, 1, 0), -14);
        x.right(0, 1);
        x.give(0, 1, true);
        d.due("none were left", x.waive(0, 0), 1);
    }
}
