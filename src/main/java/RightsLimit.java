import java.util.NoSuchElementException;

/**
 * Copies that may be made of titles: by limits, licences, waivers and fees;
 * and what becomes of the digital copies.
 *
 * <p>All rows are made once, with the object: no call makes anything but the
 * exception that it throws.
 */
public final class RightsLimit {
    public static final int NONE = -1;
    public static final int RANGE = -2;
    public static final int STATE = -3;
    public static final int FULL = -4;

    private static final int MOST_TITLES = 50;
    private static final int MOST_PUBLISHERS = 100;
    private static final int MOST_PERSONS = 100;
    private static final int MOST_LIMITS = 100;
    private static final int MOST_LICENCES = 50;
    private static final int MOST_REQUESTS = 300;
    private static final int MOST_WAIVERS = 20;
    private static final int MOST_RENEWALS = 2;

    private static final int LAST_KIND = 1;
    private static final int LAST_TIME = 1000000000;
    private static final int LAST_RIGHT = 9;
    private static final int NOBODY = 0;
    private static final int MOST_DAYS = 5000;
    private static final int MOST_COPIES = 1000;
    private static final int MOST_PAGES = 1000;
    private static final int MOST_CENTS = 10000;

    private static final int DAY = 86400;
    private static final int TERM = 30 * DAY;
    private static final int FIRST_REFUSED = -10;

    private static final int BY_NOTHING = 0;
    private static final int BY_OPEN = 1;
    private static final int BY_LICENCE = 2;
    private static final int BY_LIMITS = 3;
    private static final int BY_WAIVER = 4;
    private static final int BY_FEE = 5;

    private final Titles titles;
    private final Limits limits;
    private final Licences licences;
    private final Requests requests;
    private final int[] feeOfPublisher;
    /** Of each person, bit r is set while the person has right r. */
    private final int[] rightsOfPerson;
    private int now;
    private int latestWhy;

    public RightsLimit() {
        titles = new Titles();
        limits = new Limits();
        licences = new Licences();
        requests = new Requests();
        feeOfPublisher = new int[MOST_PUBLISHERS];
        rightsOfPerson = new int[MOST_PERSONS];
        now = 0;
        latestWhy = NONE;
    }

    public int title(int publisher) {
        if (!isPublisher(publisher)) {
            return RANGE;
        }
        return titles.add(publisher);
    }

    public int open(int title, boolean on) {
        if (!titles.has(title)) {
            return NONE;
        }
        titles.isOpen[title] = on;
        return 1;
    }

    public int limit(int title, int kind, int days, int n) {
        if (!titles.has(title)) {
            return NONE;
        }
        if (!isKind(kind) || !isDays(days) || !isCopies(n)) {
            return RANGE;
        }
        return limits.add(title, kind, days, n);
    }

    public int licence(int title, int kind, int n, int from, int to) {
        if (!titles.has(title)) {
            return NONE;
        }
        // A licence's times say when it holds, not when the call comes: they
        // may lie back, and the time does not go on by them.
        if (!isKind(kind) || !isCopies(n) || !isTime(from) || !isTime(to) || from > to) {
            return RANGE;
        }
        return licences.add(title, kind, n, from, to);
    }

    public int fee(int publisher, int cents) {
        if (!isPublisher(publisher) || !isBetween(cents, 0, MOST_CENTS)) {
            return RANGE;
        }
        feeOfPublisher[publisher] = cents;
        return 1;
    }

    public int ask(int person, int title, int kind, int pages, int t) {
        if (!titles.has(title)) {
            return NONE;
        }
        if (!isPerson(person) || !isKind(kind) || !isBetween(pages, 1, MOST_PAGES)) {
            return RANGE;
        }
        if (!goOnTo(t)) {
            return RANGE;
        }
        int number = requests.add(person, title, kind, pages, t);
        if (number == FULL) {
            return FULL;
        }
        decide(number, title, kind, t);
        return requests.isCopy(number) ? number : FIRST_REFUSED - number;
    }

    public int why() {
        return latestWhy;
    }

    public int give(int person, int right, boolean on) {
        if (!isPerson(person) || !isBetween(right, 1, LAST_RIGHT)) {
            return RANGE;
        }
        int bit = 1 << right;
        if (on) {
            rightsOfPerson[person] |= bit;
        } else {
            rightsOfPerson[person] &= ~bit;
        }
        return 1;
    }

    public int right(int title, int right) {
        if (!titles.has(title)) {
            return NONE;
        }
        if (!isBetween(right, NOBODY, LAST_RIGHT)) {
            return RANGE;
        }
        titles.rightToWaive[title] = right;
        return 1;
    }

    public int waive(int title, int person) {
        if (!titles.has(title)) {
            return NONE;
        }
        if (!isPerson(person)) {
            return RANGE;
        }
        if (!mayWaive(title, person)) {
            return STATE;
        }
        if (titles.waiversLeft[title] >= MOST_WAIVERS) {
            return FULL;
        }
        titles.waiversLeft[title]++;
        return titles.waiversLeft[title];
    }

    public int renew(int request, int t) {
        if (!requests.has(request)) {
            return NONE;
        }
        if (!goOnTo(t)) {
            return RANGE;
        }
        if (!requests.isRenewable(request, t)) {
            return STATE;
        }
        return requests.prolong(request);
    }

    public int delete(int request, int t) {
        if (!requests.has(request)) {
            return NONE;
        }
        if (!goOnTo(t)) {
            return RANGE;
        }
        if (!requests.isKept(request)) {
            return STATE;
        }
        requests.deletedAt[request] = t;
        return requests.hasEnded(request, t) ? 0 : 1;
    }

    public int counted(int title, int kind, int days, int t) {
        if (!titles.has(title)) {
            return NONE;
        }
        if (!isKind(kind) || !isDays(days) || !isTime(t)) {
            return RANGE;
        }
        return requests.countInSpan(title, kind, days, t);
    }

    public int request(int i, int what) throws NoSuchElementException {
        if (!requests.has(i)) {
            throw new NoSuchElementException("no such request");
        }
        switch (what) {
            case 0:
                return requests.person[i];
            case 1:
                return requests.title[i];
            case 2:
                return requests.kind[i];
            case 3:
                return requests.pages[i];
            case 4:
                return requests.time[i];
            case 5:
                return requests.by[i];
            case 6:
                return requests.licence[i];
            case 7:
                return requests.centsInAll[i];
            case 8:
                return requests.end[i];
            case 9:
                return requests.renewals[i];
            case 10:
                return requests.deletedAt[i];
            default:
                throw new NoSuchElementException("a request has nothing such");
        }
    }

    public int left(int licence) {
        return licences.has(licence) ? licences.copiesLeft[licence] : NONE;
    }

    public int statistics(int person, int what) {
        if (!isPerson(person)) {
            return NONE;
        }
        switch (what) {
            case 0:
                return requests.countOf(person);
            case 1:
                return requests.countRefusedOf(person);
            case 2:
                return requests.pagesAllowedTo(person);
            case 3:
                return requests.centsOf(person);
            default:
                return NONE;
        }
    }

    public int past(int t, int i) throws NoSuchElementException {
        // The document names no time that past refuses: "none such" is all it
        // throws for. An end can lie behind the last time, and comes there too.
        int number = requests.endedAt(t, i);
        if (number == NONE) {
            throw new NoSuchElementException("no such copy");
        }
        return number;
    }

    /** Allows a request, which is refused as long as nothing has allowed it. */
    private void decide(int number, int title, int kind, int t) {
        if (titles.isOpen[title]) {
            requests.allow(number, BY_OPEN);
            return;
        }
        int licence = licences.firstThatHolds(title, kind, t);
        if (licence != NONE) {
            licences.copiesLeft[licence]--;
            requests.licence[number] = licence;
            requests.allow(number, BY_LICENCE);
            return;
        }
        int reached = firstLimitReached(title, kind, t);
        if (reached == NONE) {
            requests.allow(number, BY_LIMITS);
        } else {
            decideBeyondLimits(number, title, reached);
        }
    }

    private void decideBeyondLimits(int number, int title, int reached) {
        int centsPerPage = feeOfPublisher[titles.publisher[title]];
        if (titles.waiversLeft[title] > 0) {
            titles.waiversLeft[title]--;
            requests.allow(number, BY_WAIVER);
        } else if (centsPerPage > 0) {
            requests.charge(number, centsPerPage);
            requests.allow(number, BY_FEE);
        } else {
            latestWhy = reached;
        }
    }

    private int firstLimitReached(int title, int kind, int t) {
        for (int i = 0; i < limits.count; i++) {
            if (limits.isOf(i, title, kind)
                    && requests.countInSpan(title, kind, limits.days[i], t) >= limits.copies[i]) {
                return i;
            }
        }
        return NONE;
    }

    private boolean mayWaive(int title, int person) {
        int needed = titles.rightToWaive[title];
        return needed != NOBODY && (rightsOfPerson[person] & (1 << needed)) != 0;
    }

    /**
     * Lets the time go on to t, if it can. It stays there when the call is
     * then answered by STATE or FULL: it was not for its time that it was refused.
     */
    private boolean goOnTo(int t) {
        if (!isBetween(t, now, LAST_TIME)) {
            return false;
        }
        now = t;
        return true;
    }

    private static boolean isTime(int t) {
        return isBetween(t, 0, LAST_TIME);
    }

    private static boolean isPublisher(int publisher) {
        return isBetween(publisher, 0, MOST_PUBLISHERS - 1);
    }

    private static boolean isPerson(int person) {
        return isBetween(person, 0, MOST_PERSONS - 1);
    }

    private static boolean isKind(int kind) {
        return isBetween(kind, 0, LAST_KIND);
    }

    private static boolean isDays(int days) {
        return isBetween(days, 1, MOST_DAYS);
    }

    private static boolean isCopies(int n) {
        return isBetween(n, 0, MOST_COPIES);
    }

    private static boolean isBetween(int number, int least, int most) {
        return number >= least && number <= most;
    }

    private static final class Titles {
        final int[] publisher = new int[MOST_TITLES];
        final boolean[] isOpen = new boolean[MOST_TITLES];
        final int[] rightToWaive = new int[MOST_TITLES];
        final int[] waiversLeft = new int[MOST_TITLES];
        int count = 0;

        boolean has(int number) {
            return number >= 0 && number < count;
        }

        int add(int ofPublisher) {
            if (count >= MOST_TITLES) {
                return FULL;
            }
            publisher[count] = ofPublisher;
            count++;
            return count - 1;
        }
    }

    private static final class Limits {
        final int[] title = new int[MOST_LIMITS];
        final int[] kind = new int[MOST_LIMITS];
        final int[] days = new int[MOST_LIMITS];
        final int[] copies = new int[MOST_LIMITS];
        int count = 0;

        int add(int ofTitle, int ofKind, int inDays, int n) {
            if (count >= MOST_LIMITS) {
                return FULL;
            }
            title[count] = ofTitle;
            kind[count] = ofKind;
            days[count] = inDays;
            copies[count] = n;
            count++;
            return count - 1;
        }

        boolean isOf(int number, int ofTitle, int ofKind) {
            return title[number] == ofTitle && kind[number] == ofKind;
        }
    }

    private static final class Licences {
        final int[] title = new int[MOST_LICENCES];
        final int[] kind = new int[MOST_LICENCES];
        final int[] copiesLeft = new int[MOST_LICENCES];
        final int[] from = new int[MOST_LICENCES];
        final int[] to = new int[MOST_LICENCES];
        int count = 0;

        boolean has(int number) {
            return number >= 0 && number < count;
        }

        int add(int ofTitle, int ofKind, int n, int fromTime, int toTime) {
            if (count >= MOST_LICENCES) {
                return FULL;
            }
            title[count] = ofTitle;
            kind[count] = ofKind;
            copiesLeft[count] = n;
            from[count] = fromTime;
            to[count] = toTime;
            count++;
            return count - 1;
        }

        int firstThatHolds(int ofTitle, int ofKind, int t) {
            for (int i = 0; i < count; i++) {
                if (title[i] == ofTitle && kind[i] == ofKind && isBetween(t, from[i], to[i])
                        && copiesLeft[i] > 0) {
                    return i;
                }
            }
            return NONE;
        }
    }

    private static final class Requests {
        final int[] person = new int[MOST_REQUESTS];
        final int[] title = new int[MOST_REQUESTS];
        final int[] kind = new int[MOST_REQUESTS];
        final int[] pages = new int[MOST_REQUESTS];
        final int[] time = new int[MOST_REQUESTS];
        final int[] by = new int[MOST_REQUESTS];
        final int[] licence = new int[MOST_REQUESTS];
        /** What it cost when it was asked for, and costs with each renewal. */
        final int[] centsEachTime = new int[MOST_REQUESTS];
        final int[] centsInAll = new int[MOST_REQUESTS];
        final int[] end = new int[MOST_REQUESTS];
        final int[] renewals = new int[MOST_REQUESTS];
        final int[] deletedAt = new int[MOST_REQUESTS];
        int count = 0;

        boolean has(int number) {
            return number >= 0 && number < count;
        }

        int add(int byPerson, int ofTitle, int ofKind, int ofPages, int t) {
            if (count >= MOST_REQUESTS) {
                return FULL;
            }
            person[count] = byPerson;
            title[count] = ofTitle;
            kind[count] = ofKind;
            pages[count] = ofPages;
            time[count] = t;
            by[count] = BY_NOTHING;
            licence[count] = NONE;
            end[count] = NONE;
            deletedAt[count] = NONE;
            count++;
            return count - 1;
        }

        void allow(int number, int byWhat) {
            by[number] = byWhat;
            end[number] = time[number] + TERM;
        }

        void charge(int number, int centsPerPage) {
            centsEachTime[number] = pages[number] * centsPerPage;
            centsInAll[number] = centsEachTime[number];
        }

        int prolong(int number) {
            renewals[number]++;
            centsInAll[number] += centsEachTime[number];
            end[number] += TERM;
            return end[number];
        }

        boolean isCopy(int number) {
            return by[number] != BY_NOTHING;
        }

        boolean isKept(int number) {
            return isCopy(number) && deletedAt[number] == NONE;
        }

        boolean hasEnded(int number, int t) {
            return t >= end[number];
        }

        boolean isRenewable(int number, int t) {
            return isKept(number) && renewals[number] < MOST_RENEWALS && !hasEnded(number, t);
        }

        boolean countsForLimits(int number) {
            int byWhat = by[number];
            return byWhat == BY_LIMITS || byWhat == BY_WAIVER || byWhat == BY_FEE;
        }

        int countInSpan(int ofTitle, int ofKind, int days, int t) {
            int first = t - days * DAY;
            int found = 0;
            for (int i = 0; i < count; i++) {
                if (title[i] == ofTitle && kind[i] == ofKind && countsForLimits(i)
                        && isBetween(time[i], first, t)) {
                    found++;
                }
            }
            return found;
        }

        int endedAt(int t, int place) {
            int before = 0;
            for (int i = 0; i < count; i++) {
                if (isKept(i) && hasEnded(i, t)) {
                    if (before == place) {
                        return i;
                    }
                    before++;
                }
            }
            return NONE;
        }

        int countOf(int ofPerson) {
            int found = 0;
            for (int i = 0; i < count; i++) {
                if (person[i] == ofPerson) {
                    found++;
                }
            }
            return found;
        }

        int countRefusedOf(int ofPerson) {
            int found = 0;
            for (int i = 0; i < count; i++) {
                if (person[i] == ofPerson && !isCopy(i)) {
                    found++;
                }
            }
            return found;
        }

        int pagesAllowedTo(int ofPerson) {
            int sum = 0;
            for (int i = 0; i < count; i++) {
                if (person[i] == ofPerson && isCopy(i)) {
                    sum += pages[i];
                }
            }
            return sum;
        }

        int centsOf(int ofPerson) {
            int sum = 0;
            for (int i = 0; i < count; i++) {
                if (person[i] == ofPerson) {
                    sum += centsInAll[i];
                }
            }
            return sum;
        }
    }
}
