import java.util.ArrayList;
import java.util.Collections;
import java.util.Comparator;
import java.util.List;

/**
 * Long runs of calls on NightRiders and on a second, plain model of the document, that must answer alike; behind many of
 * the calls all that both tell of their state is put side by side.
 */
public final class ModelTests {
    private static final int RUNS = 1500;
    private static final int STEPS_A_RUN = 90;
    private static final int CALLS_MOST = 512;
    private static final int WRONG_MOST = 20;
    private static int wrong = 0;

    /** The model: it keeps lists, and looks at every chain there could be. */
    private static final class Model {
        final int[][] road = new int[8][8];
        final List<int[]> riders = new ArrayList<>();
        final List<Box> boxes = new ArrayList<>();
        final List<List<Integer>> orders = new ArrayList<>();
        int places = 0;
        int rest = 30;
        Box last = null;
        // Of what came up in all runs, to see that the runs are not idle ones.
        final int[] seen;

        Model(int[] seen) {
            this.seen = seen;
        }

        int place() {
            return places == 8 ? -1 : places++;
        }

        boolean has(int place) {
            return 0 <= place && place < places;
        }

        boolean road(int a, int b, int minutes) {
            if (!has(a) || !has(b) || a == b || minutes < 0 || minutes > 600) {
                return false;
            }
            road[a][b] = minutes;
            road[b][a] = minutes;
            return true;
        }

        /** A rider's row: home, area, a, b, kinds, at, free, failed. */
        int rider(int home, int area, int a, int b, int kinds) {
            boolean given = has(home) && area >= 0 && area < 1 << places && (area >> home) % 2 == 1;
            if (!given || a < 0 || b > 4319 || a > b || kinds < 0 || kinds > 15 || riders.size() == 6) {
                return -1;
            }
            riders.add(new int[] {home, area, a, b, kinds, home, a, 0});
            return riders.size() - 1;
        }

        int rest(int v) {
            if (v < 0 || v > 600) {
                return -1;
            }
            int was = rest;
            rest = v;
            return was;
        }

        int count(int what) {
            int n = 0;
            for (Box box : boxes) {
                boolean warm = box.state == 1 && box.end() > box.ready + box.cold;
                n += what == 3 && box.state > 0 || what == 4 && box.state == 2 || what == 5 && warm ? 1 : 0;
            }
            return what == 0 ? places : what == 1 ? riders.size() : what == 2 ? boxes.size() : what > 2 && what < 6 ? n : -1;
        }

        int way(int rider, int from, int to) {
            if (rider < 0 || rider >= riders.size() || !has(from) || !has(to)) {
                return -1;
            }
            return walk(riders.get(rider)[1], from, to);
        }

        /** The least of all walks without a place twice: the places still open are what is left of the area. */
        int walk(int open, int from, int to) {
            if ((open >> from & 1) == 0 || (open >> to & 1) == 0) {
                return -1;
            }
            if (from == to) {
                return 0;
            }
            int least = -1;
            for (int over = 0; over < places; over++) {
                if (over != from && road[from][over] > 0) {
                    int rest = walk(open & ~(1 << from), over, to);
                    if (rest >= 0 && (least < 0 || rest + road[from][over] < least)) {
                        least = rest + road[from][over];
                    }
                }
            }
            return least;
        }

        List<Ride> rides(int rider) {
            List<Ride> all = new ArrayList<>();
            for (Box box : boxes) {
                for (Ride ride : box.rides) {
                    if (ride.rider == rider) {
                        all.add(ride);
                    }
                }
            }
            return all;
        }

        Integer of(int rider, int what) {
            if (rider < 0 || rider >= riders.size() || what < 0 || what > 6) {
                return null;
            }
            int[] r = riders.get(rider);
            int minutes = 0;
            for (Ride ride : rides(rider)) {
                minutes += ride.ends - ride.starts;
            }
            int[] told = {r[0], r[5], r[7] == 1 ? -1 : r[6], rides(rider).size(), minutes, r[1], r[4]};
            return told[what];
        }

        boolean able(int rider, int kind) {
            return riders.get(rider)[7] == 0 && (riders.get(rider)[4] >> kind) % 2 == 1;
        }

        int duty(int minute, int kind) {
            if (minute < 0 || minute > 4319 || kind < 0 || kind > 3) {
                return -1;
            }
            int n = 0;
            for (int i = 0; i < riders.size(); i++) {
                n += able(i, kind) && minute >= riders.get(i)[2] && minute <= riders.get(i)[3] ? 1 : 0;
            }
            return n;
        }

        int bare(int minute, int kind) {
            int m = minute;
            while (duty(m, kind) > 0) {
                m++;
            }
            return duty(m, kind) == 0 ? m : -1;
        }

        int call(int kind, int from, int to, int ready, int cold) {
            boolean given = kind >= 0 && kind < 4 && has(from) && has(to) && from != to && ready >= 0 && ready < 4320;
            if (!given || cold < 1 || cold > 2000 || boxes.size() == 40) {
                return -1;
            }
            boxes.add(new Box(kind, from, to, ready, cold));
            return boxes.size() - 1;
        }

        Box box(int n) {
            return n < 0 || n >= boxes.size() ? null : boxes.get(n);
        }

        /** All rows (rider, place, rider, place ..) that a chain could be, whenever it would end. */
        void rows(Box box, int from, List<Integer> row, List<List<Integer>> all) {
            if (row.size() == 6) {
                return;
            }
            for (int rider = 0; rider < riders.size(); rider++) {
                for (int to = 0; to < places; to++) {
                    boolean again = to == from;
                    for (int i = 0; i < row.size(); i += 2) {
                        again |= row.get(i) == rider || row.get(i + 1) == to;
                    }
                    if (again) {
                        continue;
                    }
                    List<Integer> longer = new ArrayList<>(row);
                    longer.add(rider);
                    longer.add(to);
                    if (to == box.to) {
                        all.add(longer);
                    } else {
                        rows(box, from, longer, all);
                    }
                }
            }
        }

        /** The rides of a row; none, if it can't be ridden so. */
        List<Ride> ridden(Box box, int from, int minute, List<Integer> row, int[][][] ways) {
            List<Ride> rides = new ArrayList<>();
            for (int i = 0; i < row.size(); i += 2) {
                Ride ride = new Ride();
                ride.rider = row.get(i);
                ride.from = i == 0 ? from : row.get(i - 1);
                ride.to = row.get(i + 1);
                int[] r = riders.get(ride.rider);
                int ahead = ways[ride.rider][r[5]][ride.from];
                int whole = ways[ride.rider][ride.from][ride.to];
                if (!able(ride.rider, box.kind) || ahead < 0 || whole < 0) {
                    return List.of();
                }
                int boxThere = i == 0 ? minute : rides.get(i / 2 - 1).ends;
                ride.starts = Math.max(boxThere, Math.max(r[6], r[2]) + ahead);
                ride.ends = ride.starts + whole;
                boolean tooLate = ride.ends > r[3];
                boolean waitsTooLong = i > 0 && ride.starts > riders.get(row.get(i - 2))[3];
                if (tooLate || waitsTooLong) {
                    seen[waitsTooLong ? 0 : 1]++;
                    return List.of();
                }
                rides.add(ride);
            }
            return rides;
        }

        List<Ride> bestChain(Box box, int from, int minute) {
            int[][][] ways = new int[riders.size()][places][places];
            for (int r = 0; r < riders.size(); r++) {
                for (int a = 0; a < places; a++) {
                    for (int b = 0; b < places; b++) {
                        ways[r][a][b] = way(r, a, b);
                    }
                }
            }
            List<List<Integer>> rows = new ArrayList<>();
            rows(box, from, new ArrayList<>(), rows);
            List<List<Ride>> chains = new ArrayList<>();
            for (List<Integer> row : rows) {
                List<Ride> rides = ridden(box, from, minute, row, ways);
                if (!rides.isEmpty()) {
                    chains.add(rides);
                }
            }
            // The other way round first, so that the order of the rows is of no help.
            Collections.reverse(chains);
            chains.sort(Comparator.comparingInt((List<Ride> c) -> c.get(c.size() - 1).ends).thenComparingInt(List::size).thenComparing(ModelTests::legByLeg));
            return chains.isEmpty() ? null : chains.get(0);
        }

        int best(int n) {
            Box box = box(n);
            if (box == null || box.state != 0) {
                return -1;
            }
            List<Ride> chain = bestChain(box, box.from, box.ready);
            return chain == null ? -1 : chain.get(chain.size() - 1).ends;
        }

        void go(Box box, List<Ride> chain) {
            for (int i = 0; i < chain.size(); i++) {
                Ride ride = chain.get(i);
                int[] r = riders.get(ride.rider);
                ride.before = r.clone();
                r[5] = ride.to;
                r[6] = rest + (i + 1 < chain.size() ? chain.get(i + 1).starts : ride.ends);
                box.rides.add(ride);
            }
            seen[1 + chain.size()]++;
        }

        int send(int n) {
            Box box = box(n);
            List<Ride> chain = box == null || box.state != 0 ? null : bestChain(box, box.from, box.ready);
            if (chain == null) {
                return -1;
            }
            box.state = 1;
            last = box;
            go(box, chain);
            return box.end();
        }

        int told(int n, int what) {
            Box box = box(n);
            if (box == null || what < 0 || what > 7) {
                return -1;
            }
            int end = box.state == 1 ? box.end() : -1;
            return new int[] {box.kind, box.from, box.to, box.ready, box.cold, box.state, box.rides.size(), end}[what];
        }

        int leg(int n, int i, int what) {
            Box box = box(n);
            if (box == null || i < 0 || i >= box.rides.size() || what < 0 || what > 5) {
                return -1;
            }
            Ride ride = box.rides.get(i);
            return new int[] {ride.rider, ride.from, ride.to, ride.starts, ride.ends, ride.failed ? 1 : 0}[what];
        }

        int hand(int n, int minute) {
            Box box = box(n);
            if (box == null || box.state == 0 || minute < 0 || minute > 4319) {
                return -1;
            }
            int answer = -2;
            for (Ride ride : box.rides) {
                answer = ride.starts <= minute ? ride.rider : answer;
            }
            return minute > box.end() ? -3 : answer;
        }

        int fail(int n, int i, int minute) {
            Box box = box(n);
            if (box == null || box != last || i < 0 || i >= box.rides.size()) {
                return -1;
            }
            Ride ride = box.rides.get(i);
            boolean failedSince = false;
            for (Ride other : box.rides.subList(i, box.rides.size())) {
                failedSince |= other.failed;
            }
            if (failedSince || minute < ride.starts || minute > ride.ends) {
                return -1;
            }
            while (box.rides.size() > i + 1) {
                Ride gone = box.rides.remove(box.rides.size() - 1);
                System.arraycopy(gone.before, 0, riders.get(gone.rider), 0, 8);
                seen[5]++;
            }
            ride.failed = true;
            ride.ends = minute;
            ride.to = ride.from;
            riders.get(ride.rider)[5] = ride.from;
            riders.get(ride.rider)[7] = 1;
            List<Ride> chain = bestChain(box, ride.from, minute);
            if (chain == null) {
                box.state = 2;
                seen[6]++;
                return -2;
            }
            go(box, chain);
            seen[7]++;
            return box.end();
        }

        int next(int kind, int place) {
            if (kind < 0 || kind > 3 || !has(place)) {
                return -1;
            }
            List<int[]> able = new ArrayList<>();
            for (int r = 0; r < riders.size(); r++) {
                int[] row = riders.get(r);
                int way = way(r, row[5], place);
                int there = Math.max(row[6], row[2]) + way;
                if (able(r, kind) && way >= 0 && there <= row[3]) {
                    able.add(new int[] {rides(r).size(), there, r});
                }
            }
            able.sort(java.util.Arrays::compare);
            return able.isEmpty() ? -1 : able.get(0)[2];
        }
    }

    private static final class Box {
        final int kind;
        final int from;
        final int to;
        final int ready;
        final int cold;
        final List<Ride> rides = new ArrayList<>();
        int state = 0;

        Box(int kind, int from, int to, int ready, int cold) {
            this.kind = kind;
            this.from = from;
            this.to = to;
            this.ready = ready;
            this.cold = cold;
        }

        int end() {
            return rides.get(rides.size() - 1).ends;
        }
    }

    private static final class Ride {
        int rider;
        int from;
        int to;
        int starts;
        int ends;
        boolean failed;
        int[] before;
    }

    private static int legByLeg(List<Ride> one, List<Ride> other) {
        for (int i = 0; i < one.size(); i++) {
            Ride a = one.get(i);
            Ride b = other.get(i);
            if (a.rider != b.rider) {
                return a.rider - b.rider;
            }
            if (a.to != b.to) {
                return a.to - b.to;
            }
        }
        return 0;
    }

    /** Numbers that look random and are the same each time. */
    private static final class Dice {
        private long state;

        Dice(long seed) {
            state = seed * 0x9E3779B97F4A7C15L + 12345;
        }

        int below(int bound) {
            state = state * 6364136223846793005L + 1442695040888963407L;
            return (int) ((state >>> 33) % bound);
        }

        boolean one(int in) {
            return below(in) == 0;
        }

        /** A number from least to most, at times the one outside, at times a wild one. */
        int around(int least, int most) {
            if (one(40)) {
                int[] odd = {least - 1, most + 1, -1, Integer.MIN_VALUE, Integer.MAX_VALUE, 32, 64};
                return odd[below(odd.length)];
            }
            return least + below(most - least + 1);
        }
    }

    private static void due(int run, String call, long got, long want) {
        if (got != want) {
            wrong++;
            System.out.println("run " + run + ": " + call + " answered " + got + ", due is " + want);
        }
    }

    /** An object and its model, that are asked alike. */
    private static final class Twins {
        final int run;
        final NightRiders x = new NightRiders();
        final Model m;
        final List<Probe.Call> made = new ArrayList<>();
        final List<Long> answers = new ArrayList<>();

        Twins(int run, Model m) {
            this.run = run;
            this.m = m;
        }

        void both(String text, Probe.Call call, long want) {
            long got = call.on(x);
            made.add(call);
            answers.add(got);
            due(run, text, got, want);
        }

        /** Another object of which all has been asked so far, that must have answered the same. */
        NightRiders again() {
            NightRiders y = new NightRiders();
            for (int i = 0; i < made.size(); i++) {
                due(run, "call " + i + ", made again,", made.get(i).on(y), answers.get(i));
            }
            return y;
        }
    }

    /** Asks another object in a state, so that the one that goes on is not asked more often than the document promises. */
    private static final class Asker {
        final Twins twins;
        NightRiders y = null;
        int asked = 0;

        Asker(Twins twins) {
            this.twins = twins;
        }

        void ask(String text, Probe.Call call, long want) {
            if (y == null || asked == CALLS_MOST) {
                y = twins.again();
                asked = twins.made.size();
            }
            asked++;
            due(twins.run, text, call.on(y), want);
        }
    }

    private static long ofOrThrown(Model m, int rider, int what) {
        Integer told = m.of(rider, what);
        return told == null ? Probe.LEAST : told;
    }

    private static void sameState(String behind, Twins t) {
        Model m = t.m;
        Asker asker = new Asker(t);
        for (int what = 0; what < 6; what++) {
            int w = what;
            asker.ask(behind + " count " + w, y -> y.count(w), m.count(w));
        }
        for (int rider = 0; rider < m.riders.size(); rider++) {
            int r = rider;
            for (int what = 0; what < 7; what++) {
                int w = what;
                asker.ask(behind + " of " + r + " " + w, y -> Probe.of(y, r, w), ofOrThrown(m, r, w));
            }
        }
        for (int call = 0; call < m.boxes.size(); call++) {
            int c = call;
            for (int what = 5; what < 8; what++) {
                int w = what;
                asker.ask(behind + " told " + c + " " + w, y -> y.told(c, w), m.told(c, w));
            }
            for (int leg = 0; leg <= m.told(c, 6); leg++) {
                int i = leg;
                for (int what = 0; what < 6; what++) {
                    int w = what;
                    asker.ask(behind + " leg " + c + " " + i + " " + w, y -> y.leg(c, i, w), m.leg(c, i, w));
                }
            }
        }
    }

    /** One call, likely a wise one, on both. */
    private static String step(Twins t, Dice dice, int scale) {
        Model m = t.m;
        int places = Math.max(m.places, 1) - 1;
        int a = dice.around(0, places);
        int b = dice.around(0, places);
        int kind = dice.around(0, dice.one(4) ? 3 : 0);
        int minute = dice.around(0, dice.one(5) ? 4319 : 100 * scale);
        int boxes = Math.max(m.boxes.size(), 1) - 1;
        int box = dice.one(3) && m.last != null ? m.boxes.indexOf(m.last) : dice.around(0, boxes);
        String call;
        switch (dice.below(m.riders.size() > 4 ? 22 : 21)) {
            case 0:
                call = "place()";
                t.both(call, y -> y.place(), m.place());
                break;
            case 1:
                int road = dice.one(6) ? 0 : dice.one(4) ? dice.around(0, 600) : 10 * dice.around(1, 4 * scale);
                call = "road(" + a + ", " + b + ", " + road + ")";
                t.both(call, y -> y.road(a, b, road) ? 1 : 0, m.road(a, b, road) ? 1 : 0);
                break;
            case 2:
                call = rider(t, dice, scale);
                break;
            case 3:
                int rest = dice.around(0, dice.one(5) ? 600 : 20);
                call = "rest(" + rest + ")";
                t.both(call, y -> y.rest(rest), m.rest(rest));
                break;
            case 4:
                int rider = dice.around(0, 5);
                call = "way(" + rider + ", " + a + ", " + b + ")";
                t.both(call, y -> y.way(rider, a, b), m.way(rider, a, b));
                break;
            case 5:
                call = "duty(" + minute + ", " + kind + ")";
                t.both(call, y -> y.duty(minute, kind), m.duty(minute, kind));
                t.both("bare behind " + call, y -> y.bare(minute, kind), m.bare(minute, kind));
                break;
            case 6: case 7:
                call = "next(" + kind + ", " + a + ")";
                t.both(call, y -> y.next(kind, a), m.next(kind, a));
                break;
            case 8: case 9: case 10:
                int cold = dice.around(1, dice.one(4) ? 2000 : 60 * scale);
                call = "call(" + kind + ", " + a + ", " + b + ", " + minute + ", " + cold + ")";
                t.both(call, y -> y.call(kind, a, b, minute, cold), m.call(kind, a, b, minute, cold));
                break;
            case 11:
                call = "best(" + box + ")";
                t.both(call, y -> y.best(box), m.best(box));
                break;
            case 12: case 13: case 14:
                int sent = dice.one(4) ? box : boxes;
                call = "send(" + sent + ")";
                t.both(call, y -> y.send(sent), m.send(sent));
                break;
            case 15: case 16:
                int when = dice.one(2) && m.last != null ? dice.around(0, m.last.end() + 1) : minute;
                call = "hand(" + box + ", " + when + ")";
                t.both(call, y -> y.hand(box, when), m.hand(box, when));
                break;
            case 17:
                // From one end to the other one, soon: most likely from hand to hand.
                call = "call(0, 0, " + places + ", " + minute + ", 50)";
                t.both(call, y -> y.call(0, 0, places, minute, 50), m.call(0, 0, places, minute, 50));
                int made = m.boxes.size() - 1;
                t.both("send behind " + call, y -> y.send(made), m.send(made));
                break;
            case 18:
                call = told(t, dice, box);
                break;
            default:
                call = fail(t, dice, box);
                break;
        }
        return call;
    }

    private static String told(Twins t, Dice dice, int box) {
        Model m = t.m;
        int what = dice.around(0, 7);
        String call = "told(" + box + ", " + what + ")";
        t.both(call, y -> y.told(box, what), m.told(box, what));
        int i = dice.around(0, 3);
        t.both("leg behind " + call, y -> y.leg(box, i, what), m.leg(box, i, what));
        int r = dice.around(0, m.riders.size());
        t.both("of behind " + call, y -> Probe.of(y, r, what), ofOrThrown(m, r, what));
        return call;
    }

    private static String rider(Twins t, Dice dice, int scale) {
        Model m = t.m;
        int all = (1 << m.places) - 1;
        int home = dice.around(0, Math.max(m.places, 1) - 1);
        int known = dice.one(2) ? all : dice.below(all + 1);
        int area = home >= 0 && home < 8 && !dice.one(8) ? known | 1 << home : known;
        int from = dice.one(3) ? 0 : dice.around(0, 60 * scale);
        int to = dice.one(3) ? 4319 : dice.around(40 * scale, 300 * scale);
        int kinds = dice.one(8) ? dice.around(0, 15) : dice.below(8) * 2 + 1;
        String call = "rider(" + home + ", " + area + ", " + from + ", " + to + ", " + kinds + ")";
        t.both(call, y -> y.rider(home, area, from, to, kinds), m.rider(home, area, from, to, kinds));
        return call;
    }

    private static String fail(Twins t, Dice dice, int box) {
        Model m = t.m;
        int failed = m.last == null || dice.one(8) ? box : m.boxes.indexOf(m.last);
        int legs = m.last == null ? 1 : m.last.rides.size();
        int i = dice.one(2) ? legs - 1 : dice.around(0, legs - 1);
        int minute = failingMinute(m, dice, i);
        String call = "fail(" + failed + ", " + i + ", " + minute + ")";
        t.both(call, y -> y.fail(failed, i, minute), m.fail(failed, i, minute));
        return call;
    }

    private static int failingMinute(Model m, Dice dice, int i) {
        if (m.last == null || i < 0 || i >= m.last.rides.size()) {
            return dice.around(0, 300);
        }
        Ride ride = m.last.rides.get(i);
        return dice.one(3) ? ride.ends : dice.one(3) ? ride.starts : dice.around(ride.starts, ride.ends);
    }

    private static void run(int run, int[] seen) {
        Dice dice = new Dice(run);
        Model m = new Model(seen);
        Twins t = new Twins(run, m);
        int scale = dice.one(5) ? 8 : 1;
        // In a narrow run most riders know two places of a line alone, so that boxes go from hand to hand.
        boolean narrow = !dice.one(4);
        int places = narrow ? 3 + dice.below(2) : 2 + dice.below(dice.one(10) ? 7 : 4);
        for (int place = 0; place < places; place++) {
            int p = place;
            t.both("place()", y -> y.place(), m.place());
            for (int other = 0; other < p; other++) {
                int q = other;
                int minutes = 10 * (1 + dice.below(4 * scale));
                if (q == p - 1 || dice.one(narrow ? 12 : 3)) {
                    t.both("road", y -> y.road(q, p, minutes) ? 1 : 0, m.road(q, p, minutes) ? 1 : 0);
                }
            }
        }
        int riders = narrow ? 3 + dice.below(4) : 1 + dice.below(5);
        for (int r = 0; r < riders; r++) {
            if (narrow && !dice.one(4)) {
                int home = (run + r) % (places - 1);
                int at = home + dice.below(2);
                int from = dice.below(40);
                int to = dice.one(2) ? 4319 : 100 + dice.below(200);
                t.both("rider", y -> y.rider(at, 3 << home, from, to, 15), m.rider(at, 3 << home, from, to, 15));
            } else {
                rider(t, dice, scale);
            }
        }
        for (int i = 0; i < STEPS_A_RUN && wrong < WRONG_MOST; i++) {
            String call = step(t, dice, scale);
            // Behind most questions the state is not looked at: to bring another object to it takes its time.
            if (call.startsWith("send") || call.startsWith("fail") || dice.one(8) || i == STEPS_A_RUN - 1) {
                sameState(call, t);
            }
        }
        due(run, "calls on one object, too many", Math.max(t.made.size(), CALLS_MOST), CALLS_MOST);
    }

    public static void main(String[] args) {
        int[] seen = new int[8];
        for (int n = 1; n <= RUNS && wrong < WRONG_MOST; n++) {
            run(n, seen);
        }
        String[] what = {"waits past b", "ends past b", "one leg", "two legs", "three legs", "legs gone", "lost", "gone on"};
        StringBuilder told = new StringBuilder("ModelTests: " + wrong + " wrong; seen:");
        for (int i = 0; i < seen.length; i++) {
            told.append(' ').append(what[i]).append(' ').append(seen[i]).append(i + 1 < seen.length ? "," : "");
            if (seen[i] < 100 && wrong == 0) {
                System.out.println("too seldom seen: " + what[i]);
                wrong++;
            }
        }
        System.out.println(told);
        if (wrong != 0) {
            System.exit(1);
        }
    }
}
