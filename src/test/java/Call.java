import java.util.Arrays;

/** A call of the face with its numbers (a boolean is 1 or 0), to be made on the class or on the model. */
final class Call {
    private final String name;
    private final int[] n;

    Call(String name, int... numbers) {
        this.name = name;
        this.n = numbers;
    }

    private boolean isOf(String otherName) {
        return name.equals(otherName);
    }

    /** Whether its last number is a time that the class may go on to. */
    boolean mayGoOn() {
        return isOf("ask") || isOf("renew") || isOf("delete");
    }

    /** Its answer; Due.THROWS for a NoSuchElementException. */
    long madeOn(RightsLimit x) {
        switch (name) {
            case "title": return x.title(n[0]);
            case "open": return x.open(n[0], n[1] != 0);
            case "limit": return x.limit(n[0], n[1], n[2], n[3]);
            case "licence": return x.licence(n[0], n[1], n[2], n[3], n[4]);
            case "fee": return x.fee(n[0], n[1]);
            case "ask": return x.ask(n[0], n[1], n[2], n[3], n[4]);
            case "why": return x.why();
            case "give": return x.give(n[0], n[1], n[2] != 0);
            case "right": return x.right(n[0], n[1]);
            case "waive": return x.waive(n[0], n[1]);
            case "renew": return x.renew(n[0], n[1]);
            case "delete": return x.delete(n[0], n[1]);
            case "counted": return x.counted(n[0], n[1], n[2], n[3]);
            case "request": return Due.request(x, n[0], n[1]);
            case "left": return x.left(n[0]);
            case "statistics": return x.statistics(n[0], n[1]);
            case "past": return Due.past(x, n[0], n[1]);
            default: throw new IllegalStateException(name);
        }
    }

    long madeOn(PlainModel m) {
        switch (name) {
            case "title": return m.title(n[0]);
            case "open": return m.open(n[0], n[1] != 0);
            case "limit": return m.limit(n[0], n[1], n[2], n[3]);
            case "licence": return m.licence(n[0], n[1], n[2], n[3], n[4]);
            case "fee": return m.fee(n[0], n[1]);
            case "ask": return m.ask(n[0], n[1], n[2], n[3], n[4]);
            case "why": return m.why();
            case "give": return m.give(n[0], n[1], n[2] != 0);
            case "right": return m.right(n[0], n[1]);
            case "waive": return m.waive(n[0], n[1]);
            case "renew": return m.renew(n[0], n[1]);
            case "delete": return m.delete(n[0], n[1]);
            case "counted": return m.counted(n[0], n[1], n[2], n[3]);
            case "request": return m.request(n[0], n[1]);
            case "left": return m.left(n[0]);
            case "statistics": return m.statistics(n[0], n[1]);
            case "past": return m.past(n[0], n[1]);
            default: throw new IllegalStateException(name);
        }
    }

    @Override
    public String toString() {
        return name + Arrays.toString(n).replace('[', '(').replace(']', ')');
    }
}
