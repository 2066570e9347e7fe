import java.util.NoSuchElementException;

/** Riders who carry boxes between places by night, alone or from hand to hand: ../shared/DOC.md tells all of it. */
public final class NightRiders {
    public static final int NONE = -1;

    private static final int MINUTES = 4320;
    private static final int KINDS = 4;
    private static final int PLACES_MOST = 8;
    private static final int ROAD_MOST = 600;
    private static final int RIDERS_MOST = 6;
    private static final int REST_MOST = 600;
    private static final int REST_AT_FIRST = 30;
    private static final int CALLS_MOST = 40;
    private static final int COLD_MOST = 2000;
    private static final int CHAIN_MOST = 3;
    // Each chain of a call but its last one ends with a rider that fails for ever: so there are no more chains than riders.
    private static final int LEGS_MOST = CHAIN_MOST * RIDERS_MOST;
    private static final int IS_LOST = -2;
    private static final int NOT_YET = -2;
    private static final int NO_MORE = -3;

    private final int[] roads = new int[PLACES_MOST * PLACES_MOST];
    private final Rider[] riders = new Rider[RIDERS_MOST];
    private final Request[] requests = new Request[CALLS_MOST];
    private final Chain trial = new Chain();
    private final Chain chosen = new Chain();
    private int placeCount = 0;
    private int riderCount = 0;
    private int requestCount = 0;
    private int resting = REST_AT_FIRST;
    private int lastSent = NONE;

    private static final class Rider {
        final int home;
        final int area;
        final int dutyFrom;
        final int dutyTo;
        final int kinds;
        final int[] ways = new int[PLACES_MOST * PLACES_MOST];
        int at;
        int free;
        int legsRidden = 0;
        int boxMinutes = 0;
        boolean failed = false;

        Rider(int home, int area, int dutyFrom, int dutyTo, int kinds) {
            this.home = home;
            this.area = area;
            this.dutyFrom = dutyFrom;
            this.dutyTo = dutyTo;
            this.kinds = kinds;
            this.at = home;
            this.free = dutyFrom;
        }

        boolean carries(int kind) {
            return !failed && hasBit(kinds, kind);
        }

        boolean isOnDuty(int minute) {
            return dutyFrom <= minute && minute <= dutyTo;
        }

        /** Makes the fewest minutes over any places of ways that are single roads as yet. */
        void shortenWays() {
            for (int over = 0; over < PLACES_MOST; over++) {
                for (int from = 0; from < PLACES_MOST; from++) {
                    int ahead = ways[from * PLACES_MOST + over];
                    for (int to = 0; ahead != NONE && to < PLACES_MOST; to++) {
                        int behind = ways[over * PLACES_MOST + to];
                        int whole = ways[from * PLACES_MOST + to];
                        if (behind != NONE && (whole == NONE || ahead + behind < whole)) {
                            ways[from * PLACES_MOST + to] = ahead + behind;
                        }
                    }
                }
            }
        }
    }

    /** A CALL of the document. */
    private static final class Request {
        final int kind;
        final int from;
        final int to;
        final int ready;
        final int cold;
        final Leg[] legs = new Leg[LEGS_MOST];
        int legCount = 0;
        boolean sent = false;
        boolean lost = false;

        Request(int kind, int from, int to, int ready, int cold) {
            this.kind = kind;
            this.from = from;
            this.to = to;
            this.ready = ready;
            this.cold = cold;
        }

        Leg legAt(int i) {
            return i >= 0 && i < legCount && i < LEGS_MOST ? legs[i] : null;
        }

        void addLeg(Leg added) {
            if (legCount >= 0 && legCount < LEGS_MOST) {
                legs[legCount] = added;
                legCount++;
            }
        }

        /** When its last leg ends; NONE, if it has none. */
        int lastEnd() {
            Leg last = legAt(legCount - 1);
            return last == null ? NONE : last.ends;
        }

        boolean cameWarm() {
            return sent && !lost && lastEnd() - ready > cold;
        }
    }

    private static final class Leg {
        final int rider;
        final int from;
        final int starts;
        // Where its rider was, and from when on it was free, ahead of this leg: it goes back to that when the leg is gone.
        final int atAhead;
        final int freeAhead;
        int to;
        int ends;
        boolean failed = false;

        Leg(int rider, int from, int to, int starts, int ends, int atAhead, int freeAhead) {
            this.rider = rider;
            this.from = from;
            this.to = to;
            this.starts = starts;
            this.ends = ends;
            this.atAhead = atAhead;
            this.freeAhead = freeAhead;
        }
    }

    /** A CHAIN that is sought: one row for each thing that is told of its legs. */
    private static final class Chain {
        final int[] riders = new int[CHAIN_MOST];
        final int[] froms = new int[CHAIN_MOST];
        final int[] tos = new int[CHAIN_MOST];
        final int[] starts = new int[CHAIN_MOST];
        final int[] ends = new int[CHAIN_MOST];
        int length = 0;
        int kind = 0;
        int goal = 0;

        /** Lets a rider start the leg i. */
        void open(int i, int rider, int from, int starting) {
            if (i >= 0 && i < CHAIN_MOST) {
                riders[i] = rider;
                froms[i] = from;
                starts[i] = starting;
            }
        }

        /** Lets the leg i end, as the last one. */
        void close(int i, int to, int ending) {
            if (i >= 0 && i < CHAIN_MOST) {
                tos[i] = to;
                ends[i] = ending;
                length = i + 1;
            }
        }

        /** Whether a rider rides one of the first legs. */
        boolean isRiddenBy(int rider, int legs) {
            for (int i = 0; i < legs && i < CHAIN_MOST; i++) {
                if (riders[i] == rider) {
                    return true;
                }
            }
            return false;
        }

        /** Whether one of the first legs begins at a place. */
        boolean comesFrom(int place, int legs) {
            for (int i = 0; i < legs && i < CHAIN_MOST; i++) {
                if (froms[i] == place) {
                    return true;
                }
            }
            return false;
        }

        int fromOf(int i) {
            return i >= 0 && i < CHAIN_MOST ? froms[i] : NONE;
        }

        int lastEnd() {
            return length >= 1 && length <= CHAIN_MOST ? ends[length - 1] : NONE;
        }

        /** When the rider of the leg i hands the box on. */
        int handsOn(int i) {
            return i >= 0 && i + 1 < length && i + 1 < CHAIN_MOST ? starts[i + 1] : lastEnd();
        }

        void take(Chain other) {
            for (int i = 0; i < CHAIN_MOST; i++) {
                riders[i] = other.riders[i];
                froms[i] = other.froms[i];
                tos[i] = other.tos[i];
                starts[i] = other.starts[i];
                ends[i] = other.ends[i];
            }
            length = other.length;
        }
    }

    public NightRiders() {
    }

    public int place() {
        if (placeCount >= PLACES_MOST) {
            return NONE;
        }
        placeCount++;
        return placeCount - 1;
    }

    public boolean road(int a, int b, int minutes) {
        if (!isPlace(a) || !isPlace(b) || a == b || minutes < 0 || minutes > ROAD_MOST) {
            return false;
        }
        roads[a * PLACES_MOST + b] = minutes;
        roads[b * PLACES_MOST + a] = minutes;
        for (int n = 0; n < riderCount; n++) {
            Rider known = riderAt(n);
            if (known != null) {
                settleWays(known);
            }
        }
        return true;
    }

    public int rider(int home, int area, int a, int b, int kinds) {
        if (riderCount >= RIDERS_MOST || !isPlace(home) || !areBits(area, placeCount) || !hasBit(area, home)) {
            return NONE;
        }
        if (!isMinute(a) || !isMinute(b) || a > b || !areBits(kinds, KINDS)) {
            return NONE;
        }
        Rider made = new Rider(home, area, a, b, kinds);
        settleWays(made);
        riders[riderCount] = made;
        riderCount++;
        return riderCount - 1;
    }

    public int rest(int v) {
        if (v < 0 || v > REST_MOST) {
            return NONE;
        }
        int was = resting;
        resting = v;
        return was;
    }

    public int count(int what) {
        switch (what) {
            case 0:
                return placeCount;
            case 1:
                return riderCount;
            case 2:
                return requestCount;
            case 3:
            case 4:
            case 5:
                return countRequests(what);
            default:
                return NONE;
        }
    }

    public int way(int rider, int from, int to) {
        Rider asked = riderAt(rider);
        return asked == null ? NONE : wayOf(asked, from, to);
    }

    public int of(int rider, int what) throws NoSuchElementException {
        Rider asked = riderAt(rider);
        if (asked == null) {
            throw new NoSuchElementException("no such rider");
        }
        switch (what) {
            case 0:
                return asked.home;
            case 1:
                return asked.at;
            case 2:
                return asked.failed ? NONE : asked.free;
            case 3:
                return asked.legsRidden;
            case 4:
                return asked.boxMinutes;
            case 5:
                return asked.area;
            case 6:
                return asked.kinds;
            default:
                throw new NoSuchElementException("nothing such is told of a rider");
        }
    }

    public int duty(int minute, int kind) {
        if (!isMinute(minute) || !isKind(kind)) {
            return NONE;
        }
        int counted = 0;
        for (int n = 0; n < riderCount; n++) {
            Rider known = riderAt(n);
            if (known != null && known.carries(kind) && known.isOnDuty(minute)) {
                counted++;
            }
        }
        return counted;
    }

    public int bare(int minute, int kind) {
        if (!isMinute(minute) || !isKind(kind)) {
            return NONE;
        }
        int bareFrom = minute;
        // Each turn passes the whole duty of one rider at least.
        for (int turn = 0; turn < RIDERS_MOST; turn++) {
            bareFrom = Math.max(bareFrom, 1 + lastOnDuty(bareFrom, kind));
        }
        return isMinute(bareFrom) ? bareFrom : NONE;
    }

    // ---- calls

    public int call(int kind, int from, int to, int ready, int cold) {
        if (requestCount >= CALLS_MOST || !isKind(kind) || !isPlace(from) || !isPlace(to) || from == to) {
            return NONE;
        }
        if (!isMinute(ready) || cold < 1 || cold > COLD_MOST) {
            return NONE;
        }
        requests[requestCount] = new Request(kind, from, to, ready, cold);
        requestCount++;
        return requestCount - 1;
    }

    public int best(int call) {
        Request asked = requestAt(call);
        if (asked == null || asked.sent || !findChain(asked, asked.from, asked.ready)) {
            return NONE;
        }
        return chosen.lastEnd();
    }

    public int send(int call) {
        Request asked = requestAt(call);
        if (asked == null || asked.sent || !findChain(asked, asked.from, asked.ready)) {
            return NONE;
        }
        asked.sent = true;
        lastSent = call;
        rideChosen(asked);
        return asked.lastEnd();
    }

    public int told(int call, int what) {
        Request asked = requestAt(call);
        if (asked == null) {
            return NONE;
        }
        switch (what) {
            case 0:
                return asked.kind;
            case 1:
                return asked.from;
            case 2:
                return asked.to;
            case 3:
                return asked.ready;
            case 4:
                return asked.cold;
            case 5:
                return asked.lost ? 2 : asked.sent ? 1 : 0;
            case 6:
                return asked.legCount;
            case 7:
                return asked.lost ? NONE : asked.lastEnd();
            default:
                return NONE;
        }
    }

    public int leg(int call, int i, int what) {
        Request asked = requestAt(call);
        Leg known = asked == null ? null : asked.legAt(i);
        if (known == null) {
            return NONE;
        }
        switch (what) {
            case 0:
                return known.rider;
            case 1:
                return known.from;
            case 2:
                return known.to;
            case 3:
                return known.starts;
            case 4:
                return known.ends;
            case 5:
                return known.failed ? 1 : 0;
            default:
                return NONE;
        }
    }

    public int hand(int call, int minute) {
        Request asked = requestAt(call);
        if (asked == null || !asked.sent || !isMinute(minute)) {
            return NONE;
        }
        if (minute > asked.lastEnd()) {
            return NO_MORE;
        }
        for (int i = asked.legCount - 1; i >= 0; i--) {
            Leg known = asked.legAt(i);
            if (known != null && known.starts <= minute) {
                return known.rider;
            }
        }
        return NOT_YET;
    }

    public int fail(int call, int i, int minute) {
        Request asked = requestAt(call);
        if (asked == null || call != lastSent || !mayFail(asked, i, minute)) {
            return NONE;
        }
        Leg failing = asked.legAt(i);
        if (failing == null) {
            return NONE;
        }
        dropLegsBehind(asked, i);
        failLeg(failing, minute);
        if (!findChain(asked, failing.from, minute)) {
            asked.lost = true;
            return IS_LOST;
        }
        rideChosen(asked);
        return asked.lastEnd();
    }

    public int next(int kind, int place) {
        if (!isKind(kind) || !isPlace(place)) {
            return NONE;
        }
        int found = NONE;
        int fewest = 0;
        int first = 0;
        for (int n = 0; n < riderCount; n++) {
            Rider asked = riderAt(n);
            if (asked == null || !asked.carries(kind)) {
                continue;
            }
            int there = thereFrom(asked, place);
            if (there == NONE || there > asked.dutyTo) {
                continue;
            }
            boolean equal = asked.legsRidden == fewest;
            if (found == NONE || asked.legsRidden < fewest || equal && there < first) {
                found = n;
                fewest = asked.legsRidden;
                first = there;
            }
        }
        return found;
    }

    private static boolean isMinute(int minute) {
        return minute >= 0 && minute < MINUTES;
    }

    private static boolean isKind(int kind) {
        return kind >= 0 && kind < KINDS;
    }

    private boolean isPlace(int place) {
        return place >= 0 && place < placeCount && place < PLACES_MOST;
    }

    /** Whether a number holds none but the lowest bits. */
    private static boolean areBits(int bits, int lowest) {
        return bits >= 0 && bits < 1 << lowest;
    }

    private static boolean hasBit(int bits, int bit) {
        return (bits >> bit & 1) == 1;
    }

    private Rider riderAt(int n) {
        return n >= 0 && n < riderCount && n < RIDERS_MOST ? riders[n] : null;
    }

    private Request requestAt(int n) {
        return n >= 0 && n < requestCount && n < CALLS_MOST ? requests[n] : null;
    }

    private int wayOf(Rider asked, int from, int to) {
        return isPlace(from) && isPlace(to) ? asked.ways[from * PLACES_MOST + to] : NONE;
    }

    /** Finds a rider's ways between all places anew. */
    private void settleWays(Rider settled) {
        for (int from = 0; from < PLACES_MOST; from++) {
            for (int to = 0; to < PLACES_MOST; to++) {
                settled.ways[from * PLACES_MOST + to] = roadWithin(settled.area, from, to);
            }
        }
        settled.shortenWays();
    }

    private int roadWithin(int area, int from, int to) {
        if (!isPlace(from) || !isPlace(to) || !hasBit(area, from) || !hasBit(area, to)) {
            return NONE;
        }
        if (from == to) {
            return 0;
        }
        int minutes = roads[from * PLACES_MOST + to];
        return minutes == 0 ? NONE : minutes;
    }

    /** When a rider would be at a place, if it went there at once; NONE, if it has no way. */
    private int thereFrom(Rider asked, int place) {
        int distance = wayOf(asked, asked.at, place);
        return distance == NONE ? NONE : Math.max(asked.free, asked.dutyFrom) + distance;
    }

    private int countRequests(int what) {
        int counted = 0;
        for (int n = 0; n < requestCount; n++) {
            Request known = requestAt(n);
            if (known != null && isCounted(known, what)) {
                counted++;
            }
        }
        return counted;
    }

    private static boolean isCounted(Request known, int what) {
        switch (what) {
            case 3:
                return known.sent;
            case 4:
                return known.lost;
            default:
                return known.cameWarm();
        }
    }

    /** The last minute of those on duty at a minute that may carry a kind; NONE, if nobody is. */
    private int lastOnDuty(int minute, int kind) {
        int last = NONE;
        for (int n = 0; n < riderCount; n++) {
            Rider known = riderAt(n);
            if (known != null && known.carries(kind) && known.isOnDuty(minute)) {
                last = Math.max(last, known.dutyTo);
            }
        }
        return last;
    }

    /** Puts the best chain into chosen, for a box that is at a place from a minute on; false, if there is none. */
    private boolean findChain(Request asked, int from, int minute) {
        trial.kind = asked.kind;
        trial.goal = asked.to;
        chosen.length = 0;
        tryRiders(0, from, minute);
        return chosen.length > 0;
    }

    /** Tries each rider for the leg i, the box being at a place from a minute on. */
    private void tryRiders(int i, int from, int minute) {
        if (i < 0 || i >= CHAIN_MOST) {
            return;
        }
        for (int n = 0; n < riderCount; n++) {
            Rider tried = riderAt(n);
            if (tried == null || !tried.carries(trial.kind) || trial.isRiddenBy(n, i)) {
                continue;
            }
            int there = thereFrom(tried, from);
            int starts = Math.max(there, minute);
            if (there != NONE && !isTooLate(starts) && waitsUntil(i - 1, starts)) {
                trial.open(i, n, from, starts);
                tryEnds(i, tried, starts);
            }
        }
    }

    /** Whether a chain with a leg that starts at a minute ends behind the best one so far: each leg takes a minute at least. */
    private boolean isTooLate(int starts) {
        return chosen.length > 0 && starts >= chosen.lastEnd();
    }

    /** Whether the rider of the leg i, if there is such a leg, is still on duty at a minute. */
    private boolean waitsUntil(int i, int minute) {
        if (i < 0 || i >= CHAIN_MOST) {
            return true;
        }
        Rider waiting = riderAt(trial.riders[i]);
        return waiting != null && minute <= waiting.dutyTo;
    }

    /** Tries each place where the leg i may end: first where the box goes to, as that makes many others too late. */
    private void tryEnds(int i, Rider tried, int starts) {
        tryEnd(i, tried, starts, trial.goal);
        if (i + 1 >= CHAIN_MOST) {
            return;
        }
        for (int to = 0; to < placeCount; to++) {
            if (to != trial.goal) {
                tryEnd(i, tried, starts, to);
            }
        }
    }

    /** Tries a place where the leg i may end; if the chain is whole then, it is kept, if it is the best so far. */
    private void tryEnd(int i, Rider tried, int starts, int to) {
        int distance = wayOf(tried, trial.fromOf(i), to);
        if (distance == NONE || starts + distance > tried.dutyTo || trial.comesFrom(to, i + 1)) {
            return;
        }
        trial.close(i, to, starts + distance);
        if (to == trial.goal) {
            keepIfBetter();
        } else {
            tryRiders(i + 1, to, starts + distance);
        }
    }

    /** Chains of as many legs are tried in the order of their riders and places: of equal ones the first is the best. */
    private void keepIfBetter() {
        int end = trial.lastEnd();
        int least = chosen.lastEnd();
        if (least == NONE || end < least || end == least && trial.length < chosen.length) {
            chosen.take(trial);
        }
    }

    /** Adds the legs of the chosen chain to a call's, and lets their riders ride them. */
    private void rideChosen(Request asked) {
        for (int i = 0; i < chosen.length && i < CHAIN_MOST; i++) {
            Rider riding = riderAt(chosen.riders[i]);
            if (riding == null) {
                continue;
            }
            int starts = chosen.starts[i];
            int ends = chosen.ends[i];
            int to = chosen.tos[i];
            asked.addLeg(new Leg(chosen.riders[i], chosen.froms[i], to, starts, ends, riding.at, riding.free));
            riding.at = to;
            riding.free = chosen.handsOn(i) + resting;
            riding.legsRidden++;
            riding.boxMinutes += ends - starts;
        }
    }

    /** Whether the leg i of a call may fail at a minute. */
    private static boolean mayFail(Request asked, int i, int minute) {
        Leg failing = asked.legAt(i);
        if (failing == null || minute < failing.starts || minute > failing.ends) {
            return false;
        }
        for (int j = i; j < asked.legCount; j++) {
            Leg known = asked.legAt(j);
            if (known != null && known.failed) {
                return false;
            }
        }
        return true;
    }

    /** The legs behind the leg i of a call are not ridden: their riders are as they were. */
    private void dropLegsBehind(Request asked, int i) {
        for (int j = asked.legCount - 1; j > i; j--) {
            Leg dropped = asked.legAt(j);
            Rider riding = dropped == null ? null : riderAt(dropped.rider);
            if (riding != null) {
                riding.at = dropped.atAhead;
                riding.free = dropped.freeAhead;
                riding.legsRidden--;
                riding.boxMinutes -= dropped.ends - dropped.starts;
            }
        }
        asked.legCount = i + 1;
    }

    private void failLeg(Leg failing, int minute) {
        Rider riding = riderAt(failing.rider);
        if (riding != null) {
            riding.boxMinutes -= failing.ends - minute;
            riding.at = failing.from;
            riding.failed = true;
        }
        failing.ends = minute;
        failing.to = failing.from;
        failing.failed = true;
    }
}
