import java.util.function.Supplier;

/**
 * Term 1 of the document and the promises on places, roads, riders and duties: each bound that it names, on both sides,
 * and behind each refused call the state as ahead of it. Every test bears the sentence that it is of.
 */
public final class BoundTests {
    private static final int LEAST = Probe.LEAST;
    private static final int MOST = Probe.MOST;
    private static final Probe probe = new Probe("BoundTests");

    public static void main(String[] args) {
        noPlacesRidersCalls();
        refusesWhateverIsAskedOfANewObject();
        placesAtMostEight();
        minutesOfARoad();
        endsOfARoad();
        oneRoadBetweenTheSameTwo();
        minutesZeroIsNoRoad();
        ridersAtMostSix();
        homeIsAPlace();
        areaIsBitsOfPlacesThatThereAre();
        homeIsAmongTheArea();
        dutyIsMinutes();
        dutyFromIsNotBehindDutyTo();
        kindsAreBits();
        restFromZeroTo600();
        restAtFirst30();
        countsOfAnotherWhat();
        countsFromNothingToAll();
        waysOfNoSuch();
        waysToThePlaceItself();
        waysThatThereAreNot();
        waysKeepToTheArea();
        waysAreTheFewestMinutes();
        ofNoSuchRider();
        ofAnotherWhat();
        atFirstHomeAndFreeFromDuty();
        dutiesOfAMinute();
        dutiesOfOneMinute();
        dutiesOfOthers();
        dutiesWithoutThoseThatFailed();
        bareAtBothEndsOfADuty();
        bareAtTheLastMinute();
        bareOfOthers();
        nextOfNoSuch();
        nextNoneAtAll();
        nextNotBehindItsDuty();
        nextFewestLegs();
        nextFirstThere();
        nextLeastNumber();
        nextWithAWay();
        nextFromFreeOrDutyOn();
        probe.end();
    }

    private static void due(String what, long got, long want) {
        probe.due(what, got, want);
    }

    private static long bool(boolean taken) {
        return taken ? 1 : 0;
    }

    // ---- promise 1

    private static void noPlacesRidersCalls() {
        NightRiders x = new NightRiders();
        for (int what = 0; what <= 5; what++) {
            due("new object, count " + what, x.count(what), 0);
        }
        due("new object, first place", x.place(), 0);
        due("new object, first rider", x.rider(0, 1, 0, 0, 1), 0);
        x.place();
        due("new object, first call", x.call(0, 0, 1, 0, 1), 0);
        // One object is of nothing that another one was told.
        NightRiders other = new NightRiders();
        due("another new object, places", other.count(0), 0);
        due("another new object, riders", other.count(1), 0);
        due("another new object, calls", other.count(2), 0);
    }

    private static void refusesWhateverIsAskedOfANewObject() {
        Supplier<NightRiders> empty = NightRiders::new;
        probe.refused("empty road", empty, x -> bool(x.road(0, 1, 5)), 0);
        probe.refused("empty road, none", empty, x -> bool(x.road(0, 1, 0)), 0);
        probe.refused("empty rider", empty, x -> x.rider(0, 1, 0, 0, 1), -1);
        probe.refused("empty rider, no area", empty, x -> x.rider(0, 0, 0, 0, 1), -1);
        probe.refused("empty way", empty, x -> x.way(0, 0, 0), -1);
        probe.refused("empty of", empty, x -> Probe.of(x, 0, 0), LEAST);
        probe.refused("empty call", empty, x -> x.call(0, 0, 1, 0, 1), -1);
        probe.refused("empty best", empty, x -> x.best(0), -1);
        probe.refused("empty send", empty, x -> x.send(0), -1);
        probe.refused("empty told", empty, x -> x.told(0, 0), -1);
        probe.refused("empty leg", empty, x -> x.leg(0, 0, 0), -1);
        probe.refused("empty hand", empty, x -> x.hand(0, 0), -1);
        // No call was sent last of all, whatever stands for that inside.
        for (int call : new int[] {LEAST, -2, -1, 0, 1, MOST}) {
            probe.refused("empty fail of " + call, empty, x -> x.fail(call, 0, 0), -1);
        }
        probe.refused("empty next", empty, x -> x.next(0, 0), -1);
        due("empty duty", new NightRiders().duty(0, 0), 0);
        due("empty bare, first minute", new NightRiders().bare(0, 0), 0);
        due("empty bare, last minute", new NightRiders().bare(4319, 3), 4319);
    }

    // ---- promise 2

    private static void placesAtMostEight() {
        for (int n = 0; n < 8; n++) {
            int places = n;
            NightRiders x = probe.taken("place " + n, () -> Probe.withPlaces(places), y -> y.place(), n);
            due("places behind it", x.count(0), n + 1);
        }
        probe.refused("place 8", () -> Probe.withPlaces(8), x -> x.place(), -1);
        probe.refused("place 8 of a full object", Probe::full, x -> x.place(), -1);
        NightRiders x = Probe.withPlaces(8);
        due("place 8", x.place(), -1);
        due("place 8 again", x.place(), -1);
        due("the eighth place is there", bool(x.road(0, 7, 5)), 1);
        due("the ninth place is not", bool(x.road(0, 8, 5)), 0);
    }

    // ---- promise 3

    private static void minutesOfARoad() {
        NightRiders x = probe.taken("road of 1", Probe::small, y -> bool(y.road(0, 2, 1)), 1);
        due("way over it", x.way(0, 0, 2), 1);
        x = probe.taken("road of 600", () -> Probe.withPlaces(2), y -> bool(y.road(0, 1, 600)), 1);
        x.rider(0, 3, 0, 0, 0);
        due("way over it", x.way(0, 0, 1), 600);
        x = probe.taken("road of 0", Probe::small, y -> bool(y.road(0, 1, 0)), 1);
        due("no way over it", x.way(0, 0, 1), -1);
        probe.outside("road of", Probe::small, 0, 600, (y, v) -> bool(y.road(0, 1, v)), 0);
        probe.outside("road anew of", Probe::small, 0, 600, (y, v) -> bool(y.road(0, 2, v)), 0);
    }

    private static void endsOfARoad() {
        due("road to the last place", bool(Probe.small().road(0, 2, 5)), 1);
        due("road from the last place", bool(Probe.small().road(2, 0, 5)), 1);
        due("road of the first places", bool(Probe.small().road(1, 0, 5)), 1);
        probe.outside("road from", Probe::small, 0, 2, (x, v) -> bool(x.road(v, 1, 5)), 0);
        probe.outside("road to", Probe::small, 0, 2, (x, v) -> bool(x.road(1, v, 5)), 0);
        probe.outside("no road from", Probe::small, 0, 2, (x, v) -> bool(x.road(v, 1, 0)), 0);
        probe.outside("no road to", Probe::small, 0, 2, (x, v) -> bool(x.road(1, v, 0)), 0);
        probe.outside("road of eight from", Probe::full, 0, 7, (x, v) -> bool(x.road(v, 1, 5)), 0);
        for (int p = 0; p < 3; p++) {
            int place = p;
            probe.refused("road to itself " + p, Probe::small, x -> bool(x.road(place, place, 5)), 0);
            probe.refused("no road to itself " + p, Probe::small, x -> bool(x.road(place, place, 0)), 0);
        }
        due("road to all others", bool(Probe.full().road(7, 0, 600)), 1);
    }

    private static void oneRoadBetweenTheSameTwo() {
        NightRiders x = Probe.withPlaces(2);
        x.rider(0, 3, 0, 0, 0);
        for (int minutes : new int[] {50, 600, 1, 599}) {
            due("road instead", bool(x.road(minutes % 2, 1 - minutes % 2, minutes)), 1);
            due("the one that is", x.way(0, 0, 1), minutes);
            due("the one that is, back", x.way(0, 1, 0), minutes);
        }
        // What is on the way already stays as it was: roads are asked when a call is sent.
        x = Probe.line(2);
        x.rider(0, 3, 0, 4319, 1);
        x.call(0, 0, 1, 0, 100);
        due("send", x.send(0), 10);
        x.road(0, 1, 600);
        due("its end is as it was", x.told(0, 7), 10);
    }

    private static void minutesZeroIsNoRoad() {
        NightRiders x = Probe.small();
        due("none in place of none", bool(x.road(0, 2, 0)), 1);
        due("the way as it was", x.way(0, 0, 2), 20);
        due("none in place of one", bool(x.road(2, 1, 0)), 1);
        due("no way then", x.way(0, 0, 2), -1);
        due("no way back", x.way(0, 2, 0), -1);
        due("the other road is still there", x.way(0, 0, 1), 10);
        due("none again", bool(x.road(1, 2, 0)), 1);
        due("one again", bool(x.road(1, 2, 1)), 1);
        due("way again", x.way(0, 0, 2), 11);
    }

    // ---- promise 4

    private static void ridersAtMostSix() {
        NightRiders x = Probe.withPlaces(1);
        for (int n = 0; n < 6; n++) {
            due("rider " + n, x.rider(0, 1, n, n, 1), n);
            due("riders", x.count(1), n + 1);
        }
        due("rider 6", x.rider(0, 1, 6, 6, 1), -1);
        due("the sixth rider is there", x.of(5, 2), 5);
        probe.refused("rider 6 of a full object", Probe::full, y -> y.rider(0, 255, 0, 4319, 15), -1);
        // One that has failed is a rider still: it makes no room.
        Supplier<NightRiders> allButOne = () -> {
            NightRiders y = Probe.busy();
            y.rider(0, 1, 0, 0, 1);
            return y;
        };
        due("the sixth one", Probe.busy().rider(0, 1, 0, 0, 1), 5);
        probe.refused("the seventh one", allButOne, y -> y.rider(0, 1, 0, 0, 1), -1);
    }

    private static void homeIsAPlace() {
        probe.bounds("home", Probe::small, 0, 2, (x, v) -> x.rider(v, 7, 0, 9, 1), 2, 2);
        due("home 7", Probe.withPlaces(8).rider(7, 255, 0, 9, 1), 0);
        probe.outside("home of eight", () -> Probe.withPlaces(8), 0, 7, (x, v) -> x.rider(v, 255, 0, 9, 1), -1);
        probe.outside("home of one", () -> Probe.withPlaces(1), 0, 0, (x, v) -> x.rider(v, 1, 0, 9, 1), -1);
    }

    private static void areaIsBitsOfPlacesThatThereAre() {
        probe.bounds("area", Probe::small, 1, 7, (x, v) -> x.rider(0, v, 0, 9, 1), 2, 2);
        probe.bounds("area of eight", () -> Probe.withPlaces(8), 1, 255, (x, v) -> x.rider(0, v, 0, 9, 1), 0, 0);
        probe.bounds("area of one", () -> Probe.withPlaces(1), 1, 1, (x, v) -> x.rider(0, v, 0, 9, 1), 0, 0);
        for (int area : new int[] {0, 8, 9, 15, 1 << 30 | 1, LEAST | 1, LEAST | 7, -1}) {
            probe.refused("area " + area, Probe::small, x -> x.rider(0, area, 0, 9, 1), -1);
        }
        NightRiders x = Probe.small();
        due("a place that is not there yet", x.rider(0, 9, 0, 9, 1), -1);
        due("that place", x.place(), 3);
        due("now it is there", x.rider(0, 9, 0, 9, 1), 2);
        due("its area", x.of(2, 5), 9);
        due("the areas of the others stay", x.of(0, 5), 7);
    }

    private static void homeIsAmongTheArea() {
        for (int home = 0; home < 3; home++) {
            for (int area = 0; area <= 7; area++) {
                int h = home;
                int bits = area;
                boolean among = (area >> home & 1) == 1;
                if (among) {
                    NightRiders x = probe.taken("home " + h + " in area " + bits, Probe::small, y -> y.rider(h, bits, 0, 9, 1), 2);
                    due("its home", x.of(2, 0), h);
                    due("its area", x.of(2, 5), bits);
                } else {
                    probe.refused("home " + h + " out of area " + bits, Probe::small, y -> y.rider(h, bits, 0, 9, 1), -1);
                }
            }
        }
    }

    private static void dutyIsMinutes() {
        probe.bounds("duty from", Probe::small, 0, 4319, (x, v) -> x.rider(0, 1, v, 4319, 1), 2, 2);
        probe.bounds("duty to", Probe::small, 0, 4319, (x, v) -> x.rider(0, 1, 0, v, 1), 2, 2);
        probe.refused("duty all behind", Probe::small, x -> x.rider(0, 1, 4320, 4320, 1), -1);
        probe.refused("duty all ahead", Probe::small, x -> x.rider(0, 1, -1, -1, 1), -1);
        probe.refused("duty over all", Probe::small, x -> x.rider(0, 1, LEAST, MOST, 1), -1);
    }

    private static void dutyFromIsNotBehindDutyTo() {
        for (int minute : new int[] {1, 50, 4319}) {
            NightRiders x = probe.taken("duty of one minute", Probe::small, y -> y.rider(0, 1, minute, minute, 1), 2);
            due("it is free from it on", x.of(2, 2), minute);
            due("one minute ahead", Probe.small().rider(0, 1, minute - 1, minute, 1), 2);
            probe.refused("one minute behind", Probe::small, y -> y.rider(0, 1, minute, minute - 1, 1), -1);
        }
        due("the first minute", Probe.small().rider(0, 1, 0, 0, 1), 2);
        probe.refused("the last minute ahead of the first", Probe::small, y -> y.rider(0, 1, 4319, 0, 1), -1);
    }

    private static void kindsAreBits() {
        probe.bounds("kinds", Probe::small, 0, 15, (x, v) -> x.rider(0, 1, 0, 9, v), 2, 2);
        probe.refused("kinds 16 and one more", Probe::small, x -> x.rider(0, 1, 0, 9, 17), -1);
        for (int kinds = 0; kinds <= 15; kinds++) {
            NightRiders x = Probe.withPlaces(1);
            due("rider", x.rider(0, 1, 0, 9, kinds), 0);
            due("its kinds", x.of(0, 6), kinds);
            for (int kind = 0; kind <= 3; kind++) {
                due("kinds " + kinds + ", duty of " + kind, x.duty(9, kind), kinds >> kind & 1);
            }
        }
    }

    // ---- promise 5

    private static void restFromZeroTo600() {
        probe.bounds("rest", Probe::small, 0, 600, (x, v) -> x.rest(v), 7, 7);
        NightRiders x = Probe.small();
        due("rest 0", x.rest(0), 7);
        due("rest 600 instead", x.rest(600), 0);
        due("rest 600 again", x.rest(600), 600);
        due("rest 601", x.rest(601), -1);
        due("rest 600 still", x.rest(0), 600);
        due("rest -1", x.rest(-1), -1);
        due("rest 0 still", x.rest(1), 0);
        for (int resting : new int[] {0, 1, 600}) {
            x = Probe.line(2);
            x.rider(0, 3, 0, 4319, 1);
            x.rest(resting);
            x.call(0, 0, 1, 0, 100);
            x.call(0, 1, 0, 0, 100);
            due("send", x.send(0), 10);
            due("free behind " + resting, x.of(0, 2), 10 + resting);
            due("the next call behind " + resting, x.send(1), 20 + resting);
        }
    }

    private static void restAtFirst30() {
        NightRiders x = Probe.line(2);
        x.rider(0, 3, 0, 4319, 1);
        x.call(0, 0, 1, 0, 100);
        x.send(0);
        due("free behind 30", x.of(0, 2), 40);
        due("rest was 30", x.rest(600), 30);
        due("free as it was", x.of(0, 2), 40);
        due("rest of a new object", new NightRiders().rest(0), 30);
    }

    // ---- promise 6

    private static void countsOfAnotherWhat() {
        probe.outside("count", NightRiders::new, 0, 5, (x, v) -> x.count(v), -1);
        probe.outside("count of a busy object", Probe::busy, 0, 5, (x, v) -> x.count(v), -1);
    }

    private static void countsFromNothingToAll() {
        int[] busy = {4, 5, 4, 2, 1, 1};
        int[] full = {8, 6, 40, 2, 0, 0};
        for (int what = 0; what <= 5; what++) {
            int asked = what;
            probe.taken("busy, count " + what, Probe::busy, x -> x.count(asked), busy[what]);
            probe.taken("full, count " + what, Probe::full, x -> x.count(asked), full[what]);
        }
        // All calls that there can be are sent, or lost, or came warm.
        NightRiders sent = fortySent(1);
        due("all sent", sent.count(3), 40);
        due("all warm", sent.count(5), 40);
        due("none lost", sent.count(4), 0);
        sent = fortySent(10);
        due("all sent, cold still", sent.count(3), 40);
        due("none warm", sent.count(5), 0);
    }

    /** 40 calls, each with its rider there when it is ready, and sent. */
    private static NightRiders fortySent(int cold) {
        NightRiders x = Probe.line(2);
        x.rest(0);
        x.rider(0, 3, 0, 4319, 1);
        for (int c = 0; c < 40; c++) {
            x.call(0, c % 2, 1 - c % 2, 10 * c, cold);
            due("send " + c, x.send(c), 10 * c + 10);
        }
        return x;
    }

    // ---- promise 7

    private static void waysOfNoSuch() {
        due("way of the first rider", Probe.small().way(0, 0, 2), 20);
        due("way of the last rider", Probe.small().way(1, 1, 2), 10);
        probe.outside("way of rider", Probe::small, 0, 1, (x, v) -> x.way(v, 1, 2), -1);
        probe.outside("way of rider to itself", Probe::small, 0, 1, (x, v) -> x.way(v, 2, 2), -1);
        probe.outside("way from", Probe::small, 0, 2, (x, v) -> x.way(0, v, 1), -1);
        probe.outside("way to", Probe::small, 0, 2, (x, v) -> x.way(0, 1, v), -1);
        probe.outside("way from no place to itself", Probe::small, 0, 2, (x, v) -> x.way(0, v, v), -1);
        probe.outside("way of rider of six", Probe::full, 0, 5, (x, v) -> x.way(v, 0, 7), -1);
        probe.outside("way from one of eight", Probe::full, 0, 7, (x, v) -> x.way(5, v, 0), -1);
        probe.outside("way to one of eight", Probe::full, 0, 7, (x, v) -> x.way(5, 0, v), -1);
    }

    private static void waysToThePlaceItself() {
        for (int p = 0; p < 8; p++) {
            NightRiders x = Probe.full();
            due("to itself " + p, x.way(0, p, p), 0);
        }
        NightRiders x = Probe.withPlaces(2);
        x.rider(1, 2, 0, 0, 0);
        due("to itself without a road", x.way(0, 1, 1), 0);
        due("to itself out of the area", x.way(0, 0, 0), -1);
        x.road(0, 1, 1);
        due("to itself with a road", x.way(0, 1, 1), 0);
        due("to itself out of the area, with a road", x.way(0, 0, 0), -1);
    }

    private static void waysThatThereAreNot() {
        NightRiders x = Probe.withPlaces(4);
        x.road(0, 1, 10);
        x.road(2, 3, 10);
        x.rider(0, 15, 0, 0, 0);
        due("on this side", x.way(0, 1, 0), 10);
        due("on that side", x.way(0, 2, 3), 10);
        for (int from = 0; from < 4; from++) {
            for (int to = 0; to < 4; to++) {
                if (from / 2 != to / 2) {
                    due("from side to side", x.way(0, from, to), -1);
                }
            }
        }
        x.road(1, 2, 600);
        due("the two sides, joined", x.way(0, 0, 3), 620);
        x.road(1, 2, 0);
        due("the two sides, parted", x.way(0, 0, 3), -1);
    }

    private static void waysKeepToTheArea() {
        // Over place 1 it would be sooner, but that is out of the area; and so is an end there.
        NightRiders x = Probe.line(3);
        x.rider(0, 5, 0, 0, 0);
        due("over a place out of the area", x.way(0, 0, 2), -1);
        x.road(0, 2, 600);
        due("round it", x.way(0, 0, 2), 600);
        due("to a place out of the area", x.way(0, 0, 1), -1);
        due("from a place out of the area", x.way(0, 1, 2), -1);
        x.rider(0, 7, 0, 0, 0);
        due("with all of them", x.way(1, 0, 2), 20);
        due("the first rider as ahead", x.way(0, 0, 2), 600);
        x.place();
        x.road(0, 3, 1);
        x.road(3, 2, 1);
        due("a place that came later is in no area", x.way(1, 0, 2), 20);
        due("nor an end of a way", x.way(1, 0, 3), -1);
        x.rider(3, 15, 0, 0, 0);
        due("of a later rider it may be", x.way(2, 0, 2), 2);
    }

    private static void waysAreTheFewestMinutes() {
        NightRiders x = Probe.withPlaces(8);
        x.rider(0, 255, 0, 0, 0);
        for (int p = 1; p < 8; p++) {
            x.road(p - 1, p, 600);
        }
        due("over all roads", x.way(0, 0, 7), 4200);
        due("over all but one", x.way(0, 7, 1), 3600);
        x.road(0, 7, 600);
        due("one road instead of seven", x.way(0, 0, 7), 600);
        due("half way round", x.way(0, 2, 6), 2400);
        due("over the first and the last place", x.way(0, 1, 6), 1800);
        x = Probe.line(3);
        x.rider(0, 7, 0, 0, 0);
        x.road(0, 2, 21);
        due("two roads, one minute less", x.way(0, 0, 2), 20);
        x.road(0, 2, 20);
        due("two roads, as many minutes", x.way(0, 0, 2), 20);
        x.road(0, 2, 19);
        due("one road, one minute less", x.way(0, 0, 2), 19);
    }

    // ---- promise 8

    private static void ofNoSuchRider() {
        due("of the first rider", Probe.of(Probe.small(), 0, 0), 0);
        due("of the last rider", Probe.of(Probe.small(), 1, 0), 2);
        due("of the last rider of six", Probe.of(Probe.full(), 5, 0), 5);
        for (int what = 0; what <= 6; what++) {
            int asked = what;
            probe.refused("of rider 2, " + what, Probe::small, x -> Probe.of(x, 2, asked), LEAST);
            probe.refused("of rider -1, " + what, Probe::small, x -> Probe.of(x, -1, asked), LEAST);
        }
        probe.outside("of rider", Probe::small, 0, 1, (x, v) -> Probe.of(x, v, 0), LEAST);
        probe.outside("of rider of six", Probe::full, 0, 5, (x, v) -> Probe.of(x, v, 0), LEAST);
    }

    private static void ofAnotherWhat() {
        int[] want = {0, 0, 5, 0, 0, 7, 3};
        for (int what = 0; what <= 6; what++) {
            due("of what " + what, Probe.of(Probe.small(), 0, what), want[what]);
        }
        probe.outside("of what", Probe::small, 0, 6, (x, v) -> Probe.of(x, 0, v), LEAST);
        probe.outside("of what of no rider", Probe::small, 0, 6, (x, v) -> Probe.of(x, 2, v), LEAST);
        // One that has failed is such a rider: NONE is what it is free from, and no exception.
        int[] failed = {0, 0, -1, 1, 12, 15, 8};
        for (int what = 0; what <= 6; what++) {
            due("of the failed one, " + what, Probe.of(Probe.busy(), 4, what), failed[what]);
        }
        probe.outside("of what of the failed one", Probe::busy, 0, 6, (x, v) -> Probe.of(x, 4, v), LEAST);
    }

    private static void atFirstHomeAndFreeFromDuty() {
        for (int from : new int[] {0, 1, 4318, 4319}) {
            NightRiders x = Probe.withPlaces(3);
            x.rider(2, 7, from, 4319, 1);
            due("at home", x.of(0, 1), 2);
            due("free from a on", x.of(0, 2), from);
            due("no legs", x.of(0, 3), 0);
            due("no minutes", x.of(0, 4), 0);
        }
    }

    // ---- promise 9

    private static void dutiesOfAMinute() {
        NightRiders x = Probe.withPlaces(1);
        x.rider(0, 1, 10, 20, 1);
        int[][] want = {{0, 0}, {9, 0}, {10, 1}, {11, 1}, {19, 1}, {20, 1}, {21, 0}, {4319, 0}};
        for (int[] row : want) {
            due("duty at " + row[0], x.duty(row[0], 0), row[1]);
        }
        x.rider(0, 1, 0, 4319, 1);
        due("on duty at the first minute", x.duty(0, 0), 1);
        due("on duty at the last minute", x.duty(4319, 0), 1);
        due("both", x.duty(10, 0), 2);
        due("all six", Probe.full().duty(25, 0), 6);
        due("all six but one that is not there yet", Probe.full().duty(24, 0), 5);
        due("all six at the end", Probe.full().duty(4314, 3), 6);
        due("all six but one that is gone", Probe.full().duty(4315, 3), 5);
    }

    private static void dutiesOfOneMinute() {
        for (int minute : new int[] {0, 7, 4319}) {
            NightRiders x = Probe.withPlaces(1);
            x.rider(0, 1, minute, minute, 8);
            due("at its minute", x.duty(minute, 3), 1);
            due("one ahead", x.duty(minute - 1, 3), minute == 0 ? -1 : 0);
            due("one behind", x.duty(minute + 1, 3), minute == 4319 ? -1 : 0);
        }
    }

    private static void dutiesOfOthers() {
        probe.bounds("duty at", Probe::small, 0, 4319, (x, v) -> x.duty(v, 0), 1, 1);
        probe.bounds("duty of kind", Probe::small, 0, 3, (x, v) -> x.duty(50, v), 2, 1);
        probe.outside("duty of kind, nobody there", NightRiders::new, 0, 3, (x, v) -> x.duty(0, v), -1);
        probe.outside("duty at, nobody there", NightRiders::new, 0, 4319, (x, v) -> x.duty(v, 0), -1);
        probe.refused("duty of neither", Probe::small, x -> x.duty(-1, -1), -1);
    }

    private static void dutiesWithoutThoseThatFailed() {
        NightRiders x = Probe.line(2);
        x.rider(0, 3, 0, 4319, 3);
        x.rider(0, 3, 50, 4319, 1);
        x.call(0, 0, 1, 20, 100);
        due("duty ahead", x.duty(20, 0), 1);
        due("send", x.send(0), 30);
        due("duty with a box", x.duty(20, 0), 1);
        due("fail", x.fail(0, 0, 20), 60);
        for (int minute : new int[] {0, 19, 20, 49}) {
            due("it has failed, at " + minute, x.duty(minute, 0), 0);
        }
        due("the other one", x.duty(50, 0), 1);
        due("of its other kind", x.duty(50, 1), 0);
    }

    // ---- promise 10

    private static void bareAtBothEndsOfADuty() {
        NightRiders x = Probe.withPlaces(1);
        x.rider(0, 1, 10, 20, 1);
        int[][] want = {{0, 0}, {9, 9}, {10, 21}, {20, 21}, {21, 21}, {22, 22}, {4319, 4319}};
        for (int[] row : want) {
            due("bare from " + row[0], x.bare(row[0], 0), row[1]);
        }
        x.rider(0, 1, 22, 30, 1);
        due("bare for one minute", x.bare(10, 0), 21);
        due("bare behind that minute", x.bare(22, 0), 31);
        x.rider(0, 1, 21, 21, 1);
        due("bare no more", x.bare(10, 0), 31);
        x.rider(0, 1, 0, 40, 2);
        due("one of another kind is none", x.bare(10, 0), 31);
        due("of that kind", x.bare(0, 1), 41);
    }

    private static void bareAtTheLastMinute() {
        NightRiders x = Probe.withPlaces(1);
        x.rider(0, 1, 0, 4318, 1);
        due("the last minute is bare", x.bare(0, 0), 4319);
        due("the last minute itself", x.bare(4319, 0), 4319);
        x.rider(0, 1, 4319, 4319, 1);
        due("no minute is bare", x.bare(0, 0), -1);
        due("nor the last one", x.bare(4319, 0), -1);
        due("of another kind each is", x.bare(4319, 1), 4319);
        x = Probe.withPlaces(1);
        for (int n = 5; n >= 0; n--) {
            x.rider(0, 1, 720 * n, 720 * n + 719, 1);
        }
        due("six duties over all minutes", x.bare(0, 0), -1);
    }

    private static void bareOfOthers() {
        probe.bounds("bare from", Probe::small, 0, 4319, (x, v) -> x.bare(v, 1), 0, 4319);
        probe.bounds("bare of kind", Probe::small, 0, 3, (x, v) -> x.bare(5, v), -1, -1);
        due("bare of kind 1", Probe.small().bare(5, 1), 101);
        probe.outside("bare of kind, nobody there", NightRiders::new, 0, 3, (x, v) -> x.bare(0, v), -1);
        probe.outside("bare from, nobody there", NightRiders::new, 0, 4319, (x, v) -> x.bare(v, 0), -1);
    }

    // ---- promise 18

    private static void nextOfNoSuch() {
        probe.bounds("next of kind", Probe::small, 0, 3, (x, v) -> x.next(v, 2), 1, 1);
        probe.bounds("next to", Probe::small, 0, 2, (x, v) -> x.next(0, v), 0, 1);
        probe.outside("next to one of eight", Probe::full, 0, 7, (x, v) -> x.next(0, v), -1);
        probe.refused("next of neither", Probe::small, x -> x.next(4, 3), -1);
    }

    private static void nextNoneAtAll() {
        NightRiders x = Probe.withPlaces(2);
        due("no rider", x.next(0, 0), -1);
        x.rider(0, 3, 0, 9, 14);
        due("of no such kind", x.next(0, 0), -1);
        due("of such a kind", x.next(1, 0), 0);
        due("no way", x.next(1, 1), -1);
        x.road(0, 1, 9);
        due("a way", x.next(1, 1), 0);
        x.call(1, 0, 1, 0, 100);
        due("send", x.send(0), 9);
        due("free behind b, where it is", x.next(1, 1), -1);
        due("lost", x.fail(0, 0, 0), -2);
        due("failed", x.next(1, 0), -1);
    }

    private static void nextNotBehindItsDuty() {
        for (int to = 9; to <= 11; to++) {
            NightRiders x = Probe.line(2);
            x.rider(0, 3, 0, to, 1);
            due("10 minutes, on duty to " + to, x.next(0, 1), to < 10 ? -1 : 0);
            due("where it is, on duty to " + to, x.next(0, 0), 0);
        }
        NightRiders x = Probe.line(2);
        x.rider(0, 3, 4309, 4319, 1);
        due("at the last minute", x.next(0, 1), 0);
        x = Probe.line(2);
        x.rider(0, 3, 4310, 4319, 1);
        due("behind the last minute", x.next(0, 1), -1);
        x = Probe.line(2);
        x.rest(0);
        x.rider(0, 3, 0, 10, 1);
        x.call(0, 0, 1, 0, 100);
        x.send(0);
        due("free at b, where it is", x.next(0, 1), 0);
        due("free at b, with a way", x.next(0, 0), -1);
    }

    private static void nextFewestLegs() {
        NightRiders x = Probe.line(2);
        x.rest(0);
        x.rider(0, 3, 0, 4319, 3);
        x.rider(1, 3, 100, 4319, 1);
        due("no legs yet: the first there", x.next(0, 1), 0);
        x.call(1, 0, 1, 0, 100);
        x.call(0, 1, 0, 4000, 100);
        x.send(0);
        due("one leg: the one without", x.next(0, 1), 1);
        due("it alone may carry that", x.next(1, 1), 0);
        due("who carries from 4000 on", x.send(1), 4010);
        due("by the less rider", x.leg(1, 0, 0), 0);
        due("two legs", x.of(0, 3), 2);
        due("two legs: the one without", x.next(0, 0), 1);
    }

    private static void nextFirstThere() {
        for (int from = 9; from <= 11; from++) {
            NightRiders x = Probe.line(2);
            x.rider(0, 3, 0, 4319, 1);
            x.rider(1, 3, from, 4319, 1);
            due("there at 10, the other one at " + from, x.next(0, 1), from < 10 ? 1 : 0);
        }
    }

    private static void nextLeastNumber() {
        NightRiders x = Probe.line(2);
        for (int n = 0; n < 6; n++) {
            x.rider(n % 2, 3, n % 2 == 0 ? 0 : 10, 4319, n < 3 ? 2 : 3);
        }
        due("of those equal in all, for kind 0", x.next(0, 1), 3);
        due("of those equal in all, for kind 1", x.next(1, 1), 0);
    }

    private static void nextWithAWay() {
        NightRiders x = Probe.line(3);
        x.rider(0, 3, 0, 4319, 1);
        x.rider(1, 6, 0, 4319, 1);
        due("place 0 is in the area of the first alone", x.next(0, 0), 0);
        due("place 2 is in the area of the second alone", x.next(0, 2), 1);
        x.road(1, 2, 0);
        due("no way to it", x.next(0, 2), -1);
        due("who is there already", x.next(0, 1), 1);
    }

    private static void nextFromFreeOrDutyOn() {
        NightRiders x = Probe.line(2);
        x.rest(3);
        x.rider(0, 3, 0, 4319, 1);
        x.rider(0, 3, 0, 4319, 2);
        x.call(0, 0, 1, 0, 100);
        x.call(1, 0, 1, 1, 100);
        due("send", x.send(0), 10);
        due("send one minute later", x.send(1), 11);
        due("free first", x.of(0, 2), 13);
        x.rider(1, 3, 14, 4319, 3);
        due("the fewest legs", x.next(0, 1), 2);
        x.call(0, 1, 0, 15, 100);
        due("the less rider of two that wait", x.send(2), 25);
        due("it rode twice", x.of(0, 3), 2);
        due("the fewest legs still", x.next(0, 1), 2);
        due("of the other kind too", x.next(1, 0), 2);
    }
}
