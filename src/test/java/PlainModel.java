import java.util.ArrayList;
import java.util.HashMap;
import java.util.HashSet;
import java.util.List;
import java.util.Map;
import java.util.Set;

/**
 * The document written out a second time, with the Java library and in another
 * shape than the class: every number of a person, a copy or a limit is worked
 * out anew from the list of all requests.
 */
final class PlainModel {
    private static final class Title {
        int publisher;
        boolean open;
        int right;
        int waivers;
    }

    private static final class Limit {
        int title;
        int kind;
        long days;
        int n;
    }

    private static final class Licence {
        int title;
        int kind;
        int n;
        long from;
        long to;
    }

    private static final class Request {
        int person;
        int title;
        int kind;
        int pages;
        long time;
        int by;
        int licence = -1;
        long fee;
        int renewed;
        long deleted = -1;

        long end() {
            return by == 0 ? -1 : time + (1 + renewed) * 30L * 86400L;
        }

        long cents() {
            return fee * (1 + renewed);
        }
    }

    private final List<Title> titles = new ArrayList<>();
    private final List<Limit> limits = new ArrayList<>();
    private final List<Licence> licences = new ArrayList<>();
    private final List<Request> requests = new ArrayList<>();
    private final Map<Integer, Integer> fees = new HashMap<>();
    private final Set<String> given = new HashSet<>();
    private long now = 0;
    private long why = -1;

    private static boolean out(long number, long least, long most) {
        return number < least || number > most;
    }

    private boolean noTitle(int title) {
        return out(title, 0, titles.size() - 1);
    }

    long title(int publisher) {
        if (out(publisher, 0, 99)) {
            return -2;
        }
        if (titles.size() == 50) {
            return -4;
        }
        Title made = new Title();
        made.publisher = publisher;
        titles.add(made);
        return titles.size() - 1;
    }

    long open(int title, boolean on) {
        if (noTitle(title)) {
            return -1;
        }
        titles.get(title).open = on;
        return 1;
    }

    long limit(int title, int kind, int days, int n) {
        if (noTitle(title)) {
            return -1;
        }
        if (out(kind, 0, 1) || out(days, 1, 5000) || out(n, 0, 1000)) {
            return -2;
        }
        if (limits.size() == 100) {
            return -4;
        }
        Limit made = new Limit();
        made.title = title;
        made.kind = kind;
        made.days = days;
        made.n = n;
        limits.add(made);
        return limits.size() - 1;
    }

    long licence(int title, int kind, int n, int from, int to) {
        if (noTitle(title)) {
            return -1;
        }
        if (out(kind, 0, 1) || out(n, 0, 1000) || out(from, 0, 1000000000)
                || out(to, 0, 1000000000) || to < from) {
            return -2;
        }
        if (licences.size() == 50) {
            return -4;
        }
        Licence made = new Licence();
        made.title = title;
        made.kind = kind;
        made.n = n;
        made.from = from;
        made.to = to;
        licences.add(made);
        return licences.size() - 1;
    }

    long fee(int publisher, int cents) {
        if (out(publisher, 0, 99) || out(cents, 0, 10000)) {
            return -2;
        }
        fees.put(publisher, cents);
        return 1;
    }

    long ask(int person, int title, int kind, int pages, int t) {
        if (noTitle(title)) {
            return -1;
        }
        if (out(person, 0, 99) || out(kind, 0, 1) || out(pages, 1, 1000) || out(t, now, 1000000000)) {
            return -2;
        }
        now = t;
        if (requests.size() == 300) {
            return -4;
        }
        Request made = new Request();
        made.person = person;
        made.title = title;
        made.kind = kind;
        made.pages = pages;
        made.time = t;
        made.by = decided(made);
        requests.add(made);
        long number = requests.size() - 1;
        return made.by == 0 ? -10 - number : number;
    }

    private int decided(Request r) {
        Title title = titles.get(r.title);
        if (title.open) {
            return 1;
        }
        for (Licence l : licences) {
            if (l.title == r.title && l.kind == r.kind && l.from <= r.time && r.time <= l.to
                    && left(licences.indexOf(l)) > 0) {
                r.licence = licences.indexOf(l);
                return 2;
            }
        }
        int beyond = -1;
        for (int i = limits.size() - 1; i >= 0; i--) {
            Limit l = limits.get(i);
            if (l.title == r.title && l.kind == r.kind && !(count(r.title, r.kind, l.days, r.time) < l.n)) {
                beyond = i;
            }
        }
        if (beyond == -1) {
            return 3;
        }
        if (title.waivers > 0) {
            title.waivers--;
            return 4;
        }
        r.fee = (long) r.pages * fees.getOrDefault(title.publisher, 0);
        if (r.fee > 0) {
            return 5;
        }
        why = beyond;
        return 0;
    }

    private long count(int title, int kind, long days, long t) {
        return requests.stream()
                .filter(r -> r.title == title && r.kind == kind && r.by >= 3)
                .filter(r -> r.time >= t - days * 86400L && r.time <= t)
                .count();
    }

    long why() {
        return why;
    }

    long give(int person, int right, boolean on) {
        if (out(person, 0, 99) || out(right, 1, 9)) {
            return -2;
        }
        if (on) {
            given.add(person + " " + right);
        } else {
            given.remove(person + " " + right);
        }
        return 1;
    }

    long right(int title, int right) {
        if (noTitle(title)) {
            return -1;
        }
        if (out(right, 0, 9)) {
            return -2;
        }
        titles.get(title).right = right;
        return 1;
    }

    long waive(int title, int person) {
        if (noTitle(title)) {
            return -1;
        }
        if (out(person, 0, 99)) {
            return -2;
        }
        if (!given.contains(person + " " + titles.get(title).right)) {
            return -3;
        }
        return titles.get(title).waivers == 20 ? -4 : ++titles.get(title).waivers;
    }

    long renew(int request, int t) {
        if (out(request, 0, requests.size() - 1)) {
            return -1;
        }
        if (out(t, now, 1000000000)) {
            return -2;
        }
        now = t;
        Request r = requests.get(request);
        if (r.by == 0 || r.renewed == 2 || r.deleted != -1 || t >= r.end()) {
            return -3;
        }
        r.renewed++;
        return r.end();
    }

    long delete(int request, int t) {
        if (out(request, 0, requests.size() - 1)) {
            return -1;
        }
        if (out(t, now, 1000000000)) {
            return -2;
        }
        now = t;
        Request r = requests.get(request);
        if (r.by == 0 || r.deleted != -1) {
            return -3;
        }
        r.deleted = t;
        return t < r.end() ? 1 : 0;
    }

    long counted(int title, int kind, int days, int t) {
        if (noTitle(title)) {
            return -1;
        }
        if (out(kind, 0, 1) || out(days, 1, 5000) || out(t, 0, 1000000000)) {
            return -2;
        }
        return count(title, kind, days, t);
    }

    long request(int i, int what) {
        if (out(i, 0, requests.size() - 1) || out(what, 0, 10)) {
            return Due.THROWS;
        }
        Request r = requests.get(i);
        long[] facts = {r.person, r.title, r.kind, r.pages, r.time, r.by, r.licence,
            r.cents(), r.end(), r.renewed, r.deleted};
        return facts[what];
    }

    long left(int licence) {
        if (out(licence, 0, licences.size() - 1)) {
            return -1;
        }
        return licences.get(licence).n - requests.stream().filter(r -> r.licence == licence).count();
    }

    long statistics(int person, int what) {
        if (out(person, 0, 99) || out(what, 0, 3)) {
            return -1;
        }
        long[] sums = new long[4];
        for (Request r : requests) {
            if (r.person == person) {
                sums[0]++;
                sums[1] += r.by == 0 ? 1 : 0;
                sums[2] += r.by == 0 ? 0 : r.pages;
                sums[3] += r.cents();
            }
        }
        return (int) sums[what];
    }

    long past(int t, int i) {
        List<Integer> ended = new ArrayList<>();
        for (int k = 0; k < requests.size(); k++) {
            Request r = requests.get(k);
            if (r.by != 0 && r.deleted == -1 && r.end() <= t) {
                ended.add(k);
            }
        }
        return out(i, 0, ended.size() - 1) ? Due.THROWS : ended.get(i);
    }

    int time() {
        return (int) now;
    }

    int requestsMade() {
        return requests.size();
    }
}
