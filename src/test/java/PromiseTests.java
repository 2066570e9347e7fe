import java.util.NoSuchElementException;

/** Each promise of the document by itself: ordinary inputs, the edges that it names, wrong inputs. */
public final class PromiseTests {
    private static final int LEAST = Integer.MIN_VALUE;
    private static final int MOST = Integer.MAX_VALUE;
    private static int wrong = 0;
    private static int checked = 0;

    public static void main(String[] args) {
        newObject();
        places();
        roads();
        roadsInstead();
        riders();
        rests();
        restsBehindCalls();
        counts();
        ways();
        waysWithinAreas();
        ofRiders();
        duties();
        bareMinutes();
        calls();
        bests();
        bestsOfEqualChains();
        bestsKeepDuty();
        chainsAreOfOtherRidersAndPlaces();
        waitingKeepsDuty();
        sends();
        toldOfCalls();
        legs();
        hands();
        handsOfLostCalls();
        fails();
        failsAtBothEnds();
        failsGoOnByOthers();
        failsUndoWhatIsBehind();
        failsRefused();
        nexts();
        nextsOnDuty();
        System.out.println("PromiseTests: " + checked + " checks, " + wrong + " wrong");
        if (wrong != 0) {
            System.exit(1);
        }
    }

    private static void due(String what, long got, long want) {
        checked++;
        if (got != want) {
            wrong++;
            System.out.println(what + ": answered " + got + ", due is " + want);
        }
    }

    private static void due(String what, boolean got, boolean want) {
        due(what, got ? 1 : 0, want ? 1 : 0);
    }

    private static void dueNoSuch(String what, NightRiders x, int rider, int asked) {
        boolean thrown = false;
        try {
            x.of(rider, asked);
        } catch (NoSuchElementException e) {
            thrown = e.getClass() == NoSuchElementException.class;
        }
        due(what + " throws", thrown, true);
    }

    private static NightRiders withPlaces(int n) {
        NightRiders x = new NightRiders();
        for (int i = 0; i < n; i++) {
            x.place();
        }
        return x;
    }

    /** Places 0 .. n-1, each but the first one 10 minutes behind the one ahead. */
    private static NightRiders line(int n) {
        NightRiders x = withPlaces(n);
        for (int i = 1; i < n; i++) {
            x.road(i - 1, i, 10);
        }
        return x;
    }

    private static void newObject() {
        NightRiders x = new NightRiders();
        for (int what = 0; what <= 5; what++) {
            due("new count " + what, x.count(what), 0);
        }
        due("NONE", NightRiders.NONE, -1);
        due("new way", x.way(0, 0, 0), -1);
        dueNoSuch("new of", x, 0, 0);
        due("new duty", x.duty(0, 0), 0);
        due("new bare", x.bare(7, 3), 7);
        due("new best", x.best(0), -1);
        due("new send", x.send(0), -1);
        due("new told", x.told(0, 0), -1);
        due("new leg", x.leg(0, 0, 0), -1);
        due("new hand", x.hand(0, 0), -1);
        due("new fail", x.fail(0, 0, 0), -1);
        due("new fail of none", x.fail(-1, 0, 0), -1);
        due("new next", x.next(0, 0), -1);
        due("new rest", x.rest(30), 30);
    }

    private static void places() {
        NightRiders x = new NightRiders();
        for (int i = 0; i < 8; i++) {
            due("place", x.place(), i);
        }
        due("place 9", x.place(), -1);
        due("place 10", x.place(), -1);
        due("places", x.count(0), 8);
    }

    private static void roads() {
        NightRiders x = withPlaces(3);
        x.rider(0, 7, 0, 4319, 15);
        due("road 1", x.road(0, 1, 1), true);
        due("road 600", x.road(1, 2, 600), true);
        due("road 601", x.road(1, 2, 601), false);
        due("road -1", x.road(1, 2, -1), false);
        due("road least", x.road(1, 2, LEAST), false);
        due("road most", x.road(1, 2, MOST), false);
        due("road to itself", x.road(1, 1, 5), false);
        due("road to itself, none", x.road(1, 1, 0), false);
        due("road from no place", x.road(-1, 1, 5), false);
        due("road to no place", x.road(1, 3, 5), false);
        due("road from no place, none", x.road(3, 1, 0), false);
        due("road least places", x.road(LEAST, MOST, 5), false);
        due("way over both", x.way(0, 0, 2), 601);
        due("way back", x.way(0, 2, 0), 601);
    }

    private static void roadsInstead() {
        NightRiders x = withPlaces(3);
        x.rider(0, 7, 0, 4319, 15);
        due("no road yet", x.way(0, 0, 1), -1);
        due("none in place of none", x.road(0, 1, 0), true);
        due("road", x.road(0, 1, 50), true);
        due("road instead", x.road(1, 0, 70), true);
        due("longer way", x.way(0, 0, 1), 70);
        due("shorter road", x.road(0, 1, 20), true);
        due("shorter way", x.way(0, 1, 0), 20);
        x.road(0, 2, 5);
        x.road(2, 1, 6);
        due("way over another", x.way(0, 0, 1), 11);
        due("road away", x.road(2, 0, 0), true);
        due("way again", x.way(0, 0, 1), 20);
        due("the other road away", x.road(0, 1, 0), true);
        due("no way", x.way(0, 0, 1), -1);
    }

    private static void riders() {
        NightRiders x = withPlaces(3);
        due("rider", x.rider(0, 1, 0, 0, 0), 0);
        due("rider on duty at the ends", x.rider(2, 4, 0, 4319, 15), 1);
        due("rider, a behind b", x.rider(0, 1, 6, 5, 1), -1);
        due("rider, a below 0", x.rider(0, 1, -1, 5, 1), -1);
        due("rider, b 4320", x.rider(0, 1, 0, 4320, 1), -1);
        due("rider, a and b 4320", x.rider(0, 1, 4320, 4320, 1), -1);
        due("rider, b least", x.rider(0, 1, 0, LEAST, 1), -1);
        due("rider, home none", x.rider(3, 8, 0, 5, 1), -1);
        due("rider, home below 0", x.rider(-1, 7, 0, 5, 1), -1);
        due("rider, home least", x.rider(LEAST, 7, 0, 5, 1), -1);
        due("rider, home 32", x.rider(32, 7, 0, 5, 1), -1);
        due("rider, home out of area", x.rider(1, 5, 0, 5, 1), -1);
        due("rider, area beyond places", x.rider(0, 9, 0, 5, 1), -1);
        due("rider, area below 0", x.rider(0, -1, 0, 5, 1), -1);
        due("rider, area least", x.rider(0, LEAST + 1, 0, 5, 1), -1);
        due("rider, area 0", x.rider(0, 0, 0, 5, 1), -1);
        due("rider, kinds 16", x.rider(0, 1, 0, 5, 16), -1);
        due("rider, kinds below 0", x.rider(0, 1, 0, 5, -1), -1);
        due("riders as yet", x.count(1), 2);
        for (int n = 2; n < 6; n++) {
            due("rider", x.rider(1, 7, 3, 5, 1), n);
        }
        due("rider 7", x.rider(1, 7, 3, 5, 1), -1);
        due("riders", x.count(1), 6);
        NightRiders full = withPlaces(8);
        due("rider, all places", full.rider(7, 255, 0, 5, 1), 0);
        due("rider, more than all places", full.rider(7, 256 + 128, 0, 5, 1), -1);
    }

    private static void rests() {
        NightRiders x = new NightRiders();
        due("rest 0", x.rest(0), 30);
        due("rest 601", x.rest(601), -1);
        due("rest -1", x.rest(-1), -1);
        due("rest least", x.rest(LEAST), -1);
        due("rest most", x.rest(MOST), -1);
        due("rest 600", x.rest(600), 0);
        due("rest 5", x.rest(5), 600);
        due("rest 5 again", x.rest(5), 5);
    }

    private static void restsBehindCalls() {
        NightRiders x = line(2);
        x.rider(0, 3, 0, 4319, 1);
        x.call(0, 0, 1, 0, 100);
        x.call(0, 1, 0, 0, 100);
        x.call(0, 0, 1, 0, 100);
        due("send, rest 30", x.send(0), 10);
        due("free behind 30", x.of(0, 2), 40);
        x.rest(600);
        due("free as it was", x.of(0, 2), 40);
        due("send, rest 600", x.send(1), 50);
        due("free behind 600", x.of(0, 2), 650);
        x.rest(0);
        due("send, rest 0", x.send(2), 660);
        due("free behind 0", x.of(0, 2), 660);
    }

    private static void counts() {
        NightRiders x = line(3);
        x.rider(0, 7, 0, 4319, 1);
        x.rider(0, 7, 0, 4319, 2);
        x.rest(0);
        x.call(0, 0, 2, 0, 20);
        x.call(1, 0, 2, 0, 19);
        x.call(0, 2, 0, 0, 1);
        x.call(2, 2, 0, 0, 1);
        due("places", x.count(0), 3);
        due("riders", x.count(1), 2);
        due("calls", x.count(2), 4);
        due("none sent", x.count(3), 0);
        x.send(0);
        due("sent", x.count(3), 1);
        due("cold still, at the last minute", x.count(5), 0);
        x.send(1);
        due("warm", x.count(5), 1);
        x.send(2);
        due("two warm", x.count(5), 2);
        due("not sent", x.send(3), -1);
        due("three sent", x.count(3), 3);
        due("none lost", x.count(4), 0);
        due("lost", x.fail(2, 0, 30), -2);
        due("one lost", x.count(4), 1);
        due("a lost one was sent", x.count(3), 3);
        due("a lost one came not", x.count(5), 1);
        NightRiders y = line(2);
        y.rider(0, 3, 0, 4319, 1);
        y.rest(0);
        y.call(0, 0, 1, 100, 10);
        y.call(0, 1, 0, 101, 18);
        y.send(0);
        due("cold still, counted from ready on", y.count(5), 0);
        y.send(1);
        due("warm, counted from ready on", y.count(5), 1);
        due("count 6", x.count(6), -1);
        due("count -1", x.count(-1), -1);
        due("count least", x.count(LEAST), -1);
        due("count most", x.count(MOST), -1);
    }

    private static void ways() {
        NightRiders x = withPlaces(8);
        for (int i = 1; i < 8; i++) {
            x.road(i - 1, i, 600);
        }
        x.rider(0, 255, 0, 0, 0);
        due("longest way", x.way(0, 0, 7), 4200);
        due("longest way back", x.way(0, 7, 0), 4200);
        due("way to itself", x.way(0, 7, 7), 0);
        x.road(0, 7, 599);
        due("way round", x.way(0, 1, 6), 1799);
        due("way of no rider", x.way(1, 0, 1), -1);
        due("way of rider -1", x.way(-1, 0, 1), -1);
        due("way of rider least", x.way(LEAST, 0, 1), -1);
        due("way of rider most", x.way(MOST, 0, 1), -1);
        due("way from 8", x.way(0, 8, 1), -1);
        due("way from 8 to 8", x.way(0, 8, 8), -1);
        due("way to -1", x.way(0, 0, -1), -1);
        due("way from least", x.way(0, LEAST, MOST), -1);
    }

    private static void waysWithinAreas() {
        NightRiders x = line(4);
        x.road(0, 3, 100);
        x.rider(0, 15, 0, 10, 1);
        x.rider(0, 13, 0, 10, 1);
        x.rider(1, 2, 0, 10, 1);
        due("way of all", x.way(0, 0, 2), 20);
        due("way round the one out of the area", x.way(1, 0, 2), 110);
        due("way from out of the area", x.way(1, 1, 2), -1);
        due("way to out of the area", x.way(1, 2, 1), -1);
        due("way to itself out of the area", x.way(1, 1, 1), -1);
        due("way to itself in the area", x.way(2, 1, 1), 0);
        due("no way", x.way(2, 1, 2), -1);
        x.place();
        due("way to a later place", x.way(0, 0, 4), -1);
        due("way to itself at a later place", x.way(0, 4, 4), -1);
    }

    private static void ofRiders() {
        NightRiders x = line(4);
        x.rider(1, 7, 5, 4000, 9);
        x.rider(3, 12, 6, 4000, 1);
        due("home", x.of(0, 0), 1);
        due("at", x.of(0, 1), 1);
        due("free", x.of(0, 2), 5);
        due("legs", x.of(0, 3), 0);
        due("minutes", x.of(0, 4), 0);
        due("area", x.of(0, 5), 7);
        due("kinds", x.of(0, 6), 9);
        x.call(0, 0, 3, 100, 100);
        due("send", x.send(0), 130);
        due("at behind", x.of(0, 1), 2);
        due("free behind", x.of(0, 2), 150);
        due("legs behind", x.of(0, 3), 1);
        due("minutes behind", x.of(0, 4), 20);
        due("home behind", x.of(0, 0), 1);
        due("at of the other", x.of(1, 1), 3);
        due("free of the other", x.of(1, 2), 160);
        due("minutes of the other", x.of(1, 4), 10);
        due("lost", x.fail(0, 1, 124), -2);
        due("at of the failed", x.of(1, 1), 2);
        due("free of the failed", x.of(1, 2), -1);
        due("legs of the failed", x.of(1, 3), 1);
        due("minutes of the failed", x.of(1, 4), 4);
        due("area of the failed", x.of(1, 5), 12);
        dueNoSuch("of rider 2", x, 2, 0);
        dueNoSuch("of rider -1", x, -1, 0);
        dueNoSuch("of rider least", x, LEAST, 0);
        dueNoSuch("of rider most", x, MOST, 0);
        dueNoSuch("of what 7", x, 0, 7);
        dueNoSuch("of what -1", x, 0, -1);
        dueNoSuch("of what least", x, 0, LEAST);
        dueNoSuch("of rider and what", x, 6, 7);
    }

    private static void duties() {
        NightRiders x = line(2);
        x.rider(0, 3, 10, 20, 1);
        x.rider(0, 3, 20, 4319, 5);
        due("ahead", x.duty(9, 0), 0);
        due("from a on", x.duty(10, 0), 1);
        due("both", x.duty(20, 0), 2);
        due("behind b", x.duty(21, 0), 1);
        due("last minute", x.duty(4319, 2), 1);
        due("another kind", x.duty(20, 2), 1);
        due("no kind of theirs", x.duty(20, 3), 0);
        due("minute -1", x.duty(-1, 0), -1);
        due("minute 4320", x.duty(4320, 0), -1);
        due("minute least", x.duty(LEAST, 0), -1);
        due("kind 4", x.duty(20, 4), -1);
        due("kind -1", x.duty(20, -1), -1);
        due("kind 32", x.duty(20, 32), -1);
        x.call(0, 0, 1, 10, 5);
        due("send", x.send(0), 20);
        due("failed", x.fail(0, 0, 15), 30);
        due("the failed one not", x.duty(20, 0), 1);
        due("the failed one not, ahead of that too", x.duty(12, 0), 0);
    }

    private static void bareMinutes() {
        NightRiders x = line(2);
        x.rider(0, 3, 10, 20, 1);
        x.rider(0, 3, 21, 30, 1);
        x.rider(0, 3, 32, 4319, 1);
        x.rider(0, 3, 0, 4319, 2);
        due("at once", x.bare(0, 0), 0);
        due("the one ahead of a", x.bare(9, 0), 9);
        due("over both", x.bare(10, 0), 31);
        due("from the one between", x.bare(31, 0), 31);
        due("none", x.bare(32, 0), -1);
        due("none at all", x.bare(0, 1), -1);
        due("another kind", x.bare(4319, 3), 4319);
        due("minute -1", x.bare(-1, 3), -1);
        due("minute 4320", x.bare(4320, 3), -1);
        due("minute most", x.bare(MOST, 3), -1);
        due("kind 4", x.bare(0, 4), -1);
        due("kind -1", x.bare(0, -1), -1);
        x.call(0, 0, 1, 0, 5);
        due("send", x.send(0), 20);
        due("failed", x.fail(0, 0, 10), 42);
        due("bare where the failed one was", x.bare(10, 0), 10);
        NightRiders y = withPlaces(1);
        for (int n = 5; n >= 0; n--) {
            y.rider(0, 1, 10 * n, 10 * n + 9, 1);
        }
        due("over six duties", y.bare(0, 0), 60);
        due("over the last one", y.bare(59, 0), 60);
    }

    private static void calls() {
        NightRiders x = withPlaces(3);
        due("call", x.call(0, 0, 1, 0, 1), 0);
        due("call at the ends", x.call(3, 2, 0, 4319, 2000), 1);
        due("call kind 4", x.call(4, 0, 1, 0, 1), -1);
        due("call kind -1", x.call(-1, 0, 1, 0, 1), -1);
        due("call from 3", x.call(0, 3, 1, 0, 1), -1);
        due("call from -1", x.call(0, -1, 1, 0, 1), -1);
        due("call to 3", x.call(0, 0, 3, 0, 1), -1);
        due("call to least", x.call(0, 0, LEAST, 0, 1), -1);
        due("call of one place", x.call(0, 2, 2, 0, 1), -1);
        due("call ready 4320", x.call(0, 0, 1, 4320, 1), -1);
        due("call ready -1", x.call(0, 0, 1, -1, 1), -1);
        due("call cold 0", x.call(0, 0, 1, 0, 0), -1);
        due("call cold 2001", x.call(0, 0, 1, 0, 2001), -1);
        due("call cold least", x.call(0, 0, 1, 0, LEAST), -1);
        due("calls as yet", x.count(2), 2);
        for (int n = 2; n < 40; n++) {
            due("call", x.call(0, 0, 1, 0, 1), n);
        }
        due("call 41", x.call(0, 0, 1, 0, 1), -1);
        due("calls", x.count(2), 40);
    }

    private static void bests() {
        NightRiders x = line(4);
        x.call(0, 0, 3, 50, 100);
        due("no rider", x.best(0), -1);
        x.rider(2, 15, 0, 4319, 1);
        due("ready behind the rider", x.best(0), 80);
        x.call(0, 0, 3, 15, 100);
        due("rider behind ready", x.best(1), 50);
        x.call(1, 0, 3, 15, 100);
        due("another kind", x.best(2), -1);
        due("best changes nothing", x.told(0, 5), 0);
        due("best sends nothing", x.told(0, 6), 0);
        due("best rides nothing", x.of(0, 3), 0);
        due("best again", x.best(0), 80);
        due("best 3", x.best(3), -1);
        due("best -1", x.best(-1), -1);
        due("best least", x.best(LEAST), -1);
        x.send(0);
        due("best of a sent one", x.best(0), -1);
        x.road(1, 2, 0);
        due("no way", x.best(1), -1);
    }

    private static void bestsOfEqualChains() {
        // One rider alone and two from hand to hand come at the same minute: the fewest legs.
        NightRiders x = line(3);
        x.rider(0, 3, 0, 4319, 1);
        x.rider(1, 6, 0, 4319, 1);
        x.rider(0, 7, 0, 4319, 1);
        x.call(0, 0, 2, 0, 100);
        due("equal", x.send(0), 20);
        due("the fewest legs", x.told(0, 6), 1);
        due("by the one alone", x.leg(0, 0, 0), 2);
        // Two riders come at the same minute: the less rider.
        x = line(3);
        x.rider(1, 2, 0, 4319, 1);
        x.rider(0, 7, 0, 4319, 1);
        x.rider(0, 7, 0, 4319, 1);
        x.call(0, 0, 2, 0, 100);
        x.send(0);
        due("the less rider", x.leg(0, 0, 0), 1);
        // Two legs over either of two places: the less place, though a less rider takes over at the other one.
        x = withPlaces(4);
        x.road(0, 1, 10);
        x.road(0, 2, 10);
        x.road(1, 3, 10);
        x.road(2, 3, 10);
        x.rider(2, 12, 0, 4319, 1);
        x.rider(1, 10, 0, 4319, 1);
        x.rider(0, 7, 0, 4319, 1);
        x.call(0, 0, 3, 0, 100);
        due("over either", x.send(0), 20);
        due("the less place", x.leg(0, 0, 2), 1);
        due("the rider there", x.leg(0, 1, 0), 1);
        // The less first rider counts more than the less second one.
        x = line(3);
        x.rider(1, 6, 0, 4319, 1);
        x.rider(0, 3, 0, 4319, 1);
        x.rider(0, 3, 0, 4319, 1);
        x.rider(1, 6, 0, 4319, 1);
        x.call(0, 0, 2, 0, 100);
        x.send(0);
        due("the less first rider", x.leg(0, 0, 0), 1);
        due("the less second rider", x.leg(0, 1, 0), 0);
        // The earliest end counts more than the fewest legs and the less rider.
        x = line(4);
        x.rider(3, 15, 0, 4319, 1);
        x.rider(2, 12, 0, 4319, 1);
        x.rider(1, 6, 0, 4319, 1);
        x.rider(0, 3, 0, 4319, 1);
        x.call(0, 0, 3, 0, 100);
        due("from hand to hand", x.send(0), 30);
        due("three legs", x.told(0, 6), 3);
        due("the first rider", x.leg(0, 0, 0), 3);
        due("the last rider, the less of two", x.leg(0, 2, 0), 0);
    }

    private static void bestsKeepDuty() {
        NightRiders x = line(3);
        x.rider(0, 7, 0, 29, 1);
        x.rider(0, 7, 40, 59, 1);
        x.call(0, 0, 2, 10, 100);
        due("behind b by one", x.best(0), -1);
        x.rider(0, 7, 0, 30, 1);
        due("at b", x.best(0), 30);
        x.call(0, 0, 2, 11, 100);
        due("ready too late", x.best(1), -1);
        x.rider(0, 7, 40, 60, 1);
        due("not ahead of a", x.best(1), 60);
        x.rider(1, 7, 38, 4319, 1);
        due("its way ahead too, from a on", x.best(1), 60);
        x.rider(0, 7, 39, 4319, 1);
        due("from a on", x.best(1), 59);
    }

    private static void chainsAreOfOtherRidersAndPlaces() {
        // Four legs would do it, three do not.
        NightRiders x = line(5);
        for (int i = 0; i < 4; i++) {
            x.rider(i, 3 << i, 0, 4319, 1);
        }
        x.call(0, 0, 4, 0, 100);
        x.call(0, 0, 3, 0, 100);
        due("four legs", x.best(0), -1);
        due("three legs", x.best(1), 30);
        // Only the first rider could take it on again: the one between has no other way.
        x = line(4);
        x.rider(0, 11, 0, 4319, 1);
        x.rider(1, 6, 0, 4319, 1);
        x.road(1, 3, 0);
        x.call(0, 0, 3, 0, 100);
        due("one rider twice", x.best(0), -1);
        // The first rider would be the soonest one behind the second one too, who alone may go over place 4.
        x = withPlaces(5);
        x.road(0, 1, 10);
        x.road(1, 4, 10);
        x.road(4, 2, 10);
        x.road(2, 3, 10);
        x.road(0, 3, 500);
        x.rider(3, 15, 0, 4319, 1);
        x.rider(1, 22, 0, 4319, 1);
        x.call(0, 0, 3, 500, 100);
        due("one rider twice, though it would be sooner", x.best(0), 1000);
        x.rider(3, 12, 0, 4319, 1);
        due("a third rider", x.best(0), 540);
        // The second rider could keep the box where it is, but that is no leg.
        x = line(3);
        x.rider(0, 3, 0, 20, 1);
        x.rider(1, 2, 0, 4319, 1);
        x.rider(1, 6, 50, 4319, 1);
        x.call(0, 0, 2, 0, 100);
        due("one place twice", x.best(0), -1);
        // The box would have to come back to where it was, for a rider who is there later alone.
        x = withPlaces(3);
        x.road(0, 1, 10);
        x.road(0, 2, 10);
        x.rider(0, 3, 0, 10, 1);
        x.rider(1, 3, 0, 20, 1);
        x.rider(0, 5, 15, 4319, 1);
        x.call(0, 0, 2, 0, 100);
        due("by one alone", x.send(0), 25);
        due("one leg", x.told(0, 6), 1);
    }

    private static void waitingKeepsDuty() {
        NightRiders x = line(3);
        x.rider(0, 3, 0, 39, 1);
        x.rider(1, 6, 40, 4319, 1);
        x.call(0, 0, 2, 0, 100);
        due("it can't wait so long", x.best(0), -1);
        x.rider(0, 3, 0, 40, 1);
        due("it can wait so long", x.send(0), 50);
        due("the one who can", x.leg(0, 0, 0), 2);
        due("it ends ahead", x.leg(0, 0, 4), 10);
        due("the other starts later", x.leg(0, 1, 3), 40);
        due("free behind the hand-over", x.of(2, 2), 70);
        due("minutes are those of the leg", x.of(2, 4), 10);
        // The last one waits for nobody.
        x = line(3);
        x.rider(0, 3, 0, 10, 1);
        x.rider(1, 6, 0, 20, 1);
        x.call(0, 0, 2, 0, 100);
        due("all at b", x.best(0), 20);
    }

    private static void sends() {
        NightRiders x = line(3);
        x.rider(0, 7, 0, 100, 1);
        x.rest(7);
        x.call(0, 0, 2, 0, 100);
        x.call(0, 2, 0, 0, 100);
        x.call(0, 0, 2, 90, 100);
        due("send", x.send(0), 20);
        due("send again", x.send(0), -1);
        due("send the next one", x.send(1), 47);
        due("send what can't be", x.send(2), -1);
        due("it is not sent", x.told(2, 5), 0);
        due("it is of no legs", x.told(2, 6), 0);
        due("send 3", x.send(3), -1);
        due("send -1", x.send(-1), -1);
        due("send most", x.send(MOST), -1);
        due("sent", x.count(3), 2);
        due("at", x.of(0, 1), 0);
        due("free", x.of(0, 2), 54);
    }

    private static void toldOfCalls() {
        NightRiders x = line(4);
        x.rider(1, 15, 0, 100, 8);
        x.rider(1, 15, 0, 100, 8);
        x.call(3, 1, 3, 17, 2000);
        int[] want = {3, 1, 3, 17, 2000, 0, 0, -1};
        for (int what = 0; what < 8; what++) {
            due("told " + what, x.told(0, what), want[what]);
        }
        x.send(0);
        due("sent", x.told(0, 5), 1);
        due("one leg", x.told(0, 6), 1);
        due("last end", x.told(0, 7), 37);
        x.fail(0, 0, 20);
        due("sent still", x.told(0, 5), 1);
        due("two legs, the failed one too", x.told(0, 6), 2);
        due("last end then", x.told(0, 7), 40);
        x.fail(0, 1, 20);
        due("lost", x.told(0, 5), 2);
        due("two legs still", x.told(0, 6), 2);
        due("no last end", x.told(0, 7), -1);
        for (int what = 0; what < 5; what++) {
            due("told " + what + " still", x.told(0, what), want[what]);
        }
        due("told what 8", x.told(0, 8), -1);
        due("told what -1", x.told(0, -1), -1);
        due("told of 1", x.told(1, 0), -1);
        due("told of -1", x.told(-1, 0), -1);
        due("told of least", x.told(LEAST, LEAST), -1);
    }

    private static void legs() {
        NightRiders x = line(4);
        x.rider(1, 14, 0, 200, 1);
        x.rider(0, 3, 5, 200, 1);
        x.call(0, 0, 3, 0, 2000);
        due("leg of one not sent", x.leg(0, 0, 0), -1);
        due("send", x.send(0), 35);
        int[][] want = {{1, 0, 1, 5, 15, 0}, {0, 1, 3, 15, 35, 0}};
        for (int i = 0; i < 2; i++) {
            for (int what = 0; what < 6; what++) {
                due("leg " + i + " " + what, x.leg(0, i, what), want[i][what]);
            }
        }
        due("leg 2", x.leg(0, 2, 0), -1);
        due("leg -1", x.leg(0, -1, 0), -1);
        due("leg most", x.leg(0, MOST, 0), -1);
        due("leg least", x.leg(0, LEAST, 0), -1);
        due("leg what 6", x.leg(0, 0, 6), -1);
        due("leg what -1", x.leg(0, 0, -1), -1);
        due("leg of call 1", x.leg(1, 0, 0), -1);
        due("leg of call -1", x.leg(-1, 0, 0), -1);
        x.rider(3, 14, 0, 200, 1);
        due("fail", x.fail(0, 1, 15), 40);
        int[][] then = {{1, 0, 1, 5, 15, 0}, {0, 1, 1, 15, 15, 1}, {2, 1, 3, 20, 40, 0}};
        due("last end", x.told(0, 7), 40);
        for (int i = 0; i < 3; i++) {
            for (int what = 0; what < 6; what++) {
                due("leg then " + i + " " + what, x.leg(0, i, what), then[i][what]);
            }
        }
    }

    private static void hands() {
        NightRiders x = line(3);
        x.rider(1, 3, 0, 4319, 1);
        x.rider(1, 6, 60, 4319, 1);
        x.call(0, 0, 2, 3, 100);
        due("hand of one not sent", x.hand(0, 3), -1);
        due("send", x.send(0), 70);
        due("not ready", x.hand(0, 0), -2);
        due("ready, in no hand", x.hand(0, 9), -2);
        due("first start", x.hand(0, 10), 0);
        due("first end", x.hand(0, 20), 0);
        due("waits", x.hand(0, 59), 0);
        due("handed on", x.hand(0, 60), 1);
        due("the last end", x.hand(0, 70), 1);
        due("behind the last end", x.hand(0, 71), -3);
        due("last minute", x.hand(0, 4319), -3);
        due("minute 4320", x.hand(0, 4320), -1);
        due("minute -1", x.hand(0, -1), -1);
        due("minute least", x.hand(0, LEAST), -1);
        due("hand of 1", x.hand(1, 0), -1);
        due("hand of -1", x.hand(-1, 0), -1);
        x.rider(1, 7, 100, 4319, 1);
        due("fail", x.fail(0, 0, 15), 130);
        due("with the one who failed", x.hand(0, 109), 0);
        due("with the next one", x.hand(0, 110), 2);
        due("the last end then", x.hand(0, 130), 2);
        due("behind it", x.hand(0, 131), -3);
    }

    private static void handsOfLostCalls() {
        NightRiders x = line(2);
        x.rider(1, 3, 0, 4319, 1);
        x.call(0, 0, 1, 0, 100);
        x.send(0);
        due("lost", x.fail(0, 0, 15), -2);
        due("in no hand as yet", x.hand(0, 9), -2);
        due("in its hand", x.hand(0, 10), 0);
        due("at its end", x.hand(0, 15), 0);
        due("behind its end", x.hand(0, 16), -3);
        due("where the end would have been", x.hand(0, 20), -3);
    }

    private static void fails() {
        NightRiders x = line(3);
        x.rest(0);
        x.rider(0, 7, 0, 4319, 1);
        x.rider(2, 7, 0, 4319, 1);
        x.call(0, 0, 2, 0, 30);
        due("send", x.send(0), 20);
        due("fail", x.fail(0, 0, 7), 40);
        due("warm now", x.count(5), 1);
        due("box from where the leg began", x.leg(0, 1, 1), 0);
        due("at", x.of(1, 1), 2);
        due("free", x.of(1, 2), 40);
        due("legs", x.of(1, 3), 1);
        due("fail again, another rider", x.fail(0, 1, 25), -2);
        due("lost", x.told(0, 5), 2);
        due("best of a lost one", x.best(0), -1);
        due("send of a lost one", x.send(0), -1);
        due("warm no more", x.count(5), 0);
        due("no rider is left", x.duty(0, 0), 0);
        due("no next one", x.next(0, 0), -1);
    }

    private static void failsAtBothEnds() {
        for (int minute = 10; minute <= 30; minute += 20) {
            NightRiders x = line(3);
            x.rider(1, 7, 0, 4319, 1);
            x.rider(1, 7, 50, 4319, 1);
            x.call(0, 0, 2, 5, 30);
            due("send", x.send(0), 30);
            due("ahead of its start", x.fail(0, 0, 9), -1);
            due("behind its end", x.fail(0, 0, 31), -1);
            due("least", x.fail(0, 0, LEAST), -1);
            due("most", x.fail(0, 0, MOST), -1);
            due("not failed", x.leg(0, 0, 5), 0);
            due("fail at " + minute, x.fail(0, 0, minute), 80);
            due("its end", x.leg(0, 0, 4), minute);
            due("its minutes", x.of(0, 4), minute - 10);
            due("its place", x.of(0, 1), 0);
            due("the next start", x.leg(0, 1, 3), 60);
        }
    }

    private static void failsGoOnByOthers() {
        // The rider of the leg ahead rides again, the gone one too, over a place where the box has been.
        NightRiders x = line(4);
        x.rest(5);
        x.rider(0, 3, 0, 4319, 1);
        x.rider(1, 6, 0, 4319, 1);
        x.rider(2, 12, 0, 4319, 1);
        x.road(0, 3, 100);
        x.rider(0, 9, 0, 4319, 1);
        x.call(0, 0, 3, 0, 2000);
        due("send", x.send(0), 30);
        due("three legs", x.told(0, 6), 3);
        due("fail", x.fail(0, 1, 14), 125);
        due("legs", x.told(0, 6), 4);
        due("the one ahead again", x.leg(0, 2, 0), 0);
        due("from where it lies", x.leg(0, 2, 1), 1);
        due("back to where it was", x.leg(0, 2, 2), 0);
        due("behind its rest", x.leg(0, 2, 3), 15);
        due("then the other one", x.leg(0, 3, 0), 3);
        due("its start", x.leg(0, 3, 3), 25);
        due("legs of the one who rode twice", x.of(0, 3), 2);
        due("minutes of the one who rode twice", x.of(0, 4), 20);
        due("free", x.of(0, 2), 30);
        due("the gone one rode none", x.of(2, 3), 0);
        due("the last one fails", x.fail(0, 3, 60), -2);
        due("legs of it", x.told(0, 6), 4);
    }

    private static void failsUndoWhatIsBehind() {
        NightRiders x = line(4);
        x.rest(5);
        x.rider(0, 3, 0, 4319, 1);
        x.rider(3, 14, 0, 4319, 3);
        x.rider(3, 12, 0, 4319, 1);
        x.call(1, 3, 2, 0, 2000);
        due("send of another", x.send(0), 10);
        x.call(0, 0, 3, 20, 2000);
        due("send", x.send(1), 50);
        due("two legs", x.told(1, 6), 2);
        due("by", x.leg(1, 1, 0), 1);
        due("at", x.of(1, 1), 3);
        due("free", x.of(1, 2), 55);
        due("legs", x.of(1, 3), 2);
        due("minutes", x.of(1, 4), 30);
        x.rest(600);
        due("lost", x.fail(1, 0, 20), -2);
        due("at as it was", x.of(1, 1), 2);
        due("free as it was", x.of(1, 2), 15);
        due("legs as they were", x.of(1, 3), 1);
        due("minutes as they were", x.of(1, 4), 10);
        due("the gone leg", x.leg(1, 1, 0), -1);
        due("one leg", x.told(1, 6), 1);
        due("the first one is not free", x.of(0, 2), -1);
        due("minutes of the failed", x.of(0, 4), 0);
    }

    private static void failsRefused() {
        NightRiders x = line(3);
        x.rest(0);
        x.rider(0, 3, 0, 4319, 1);
        x.rider(1, 6, 0, 4319, 1);
        x.rider(1, 6, 0, 4319, 1);
        x.rider(0, 3, 0, 4319, 2);
        x.call(0, 0, 2, 0, 2000);
        x.call(1, 0, 1, 0, 2000);
        x.call(0, 0, 2, 0, 2000);
        due("fail of one not sent", x.fail(0, 0, 0), -1);
        due("send", x.send(0), 20);
        due("fail of another", x.fail(1, 0, 0), -1);
        due("fail of leg 2", x.fail(0, 2, 20), -1);
        due("fail of leg -1", x.fail(0, -1, 20), -1);
        due("fail of leg least", x.fail(0, LEAST, 20), -1);
        due("fail of leg most", x.fail(0, MOST, 20), -1);
        due("fail of call 3", x.fail(3, 0, 0), -1);
        due("fail of call least", x.fail(LEAST, 0, 0), -1);
        due("fail", x.fail(0, 1, 12), 22);
        due("fail of what failed", x.fail(0, 1, 12), -1);
        due("fail ahead of what failed", x.fail(0, 0, 5), -1);
        due("send another", x.send(1), 10);
        due("fail of one sent ahead", x.fail(0, 2, 15), -1);
        due("send what can't be sent twice", x.send(0), -1);
        due("fail of the last one", x.fail(1, 0, 3), -2);
        due("fail of one lost", x.fail(1, 0, 3), -1);
        due("nothing changed", x.told(0, 7), 22);
        due("lost ones", x.count(4), 1);
    }

    private static void nexts() {
        NightRiders x = line(4);
        x.rest(0);
        x.rider(3, 15, 100, 4319, 1);
        x.rider(1, 15, 5, 4319, 1);
        x.rider(2, 15, 0, 4319, 3);
        x.rider(0, 1, 0, 4319, 1);
        due("who is there first, at home from a on", x.next(0, 1), 1);
        due("who is there first, at home", x.next(0, 0), 3);
        due("who is there first, by its way", x.next(0, 3), 2);
        due("of another kind", x.next(1, 1), 2);
        due("of no kind", x.next(2, 3), -1);
        x.call(1, 2, 3, 0, 2000);
        due("send", x.send(0), 10);
        due("the fewest legs ahead of the first there", x.next(0, 3), 1);
        due("of another kind, with a leg", x.next(1, 0), 2);
        x.road(0, 1, 0);
        due("with a way alone", x.next(1, 0), -1);
        due("with a way alone, to the one that is there", x.next(0, 0), 3);
        due("failed", x.fail(0, 0, 4), -2);
        due("not the failed one", x.next(1, 2), -1);
        due("kind 4", x.next(4, 0), -1);
        due("kind -1", x.next(-1, 0), -1);
        due("kind 4, place 4", x.next(4, 4), -1);
        due("place 4", x.next(0, 4), -1);
        due("place -1", x.next(0, -1), -1);
        due("place least", x.next(0, LEAST), -1);
        // Equal in legs and minutes: the least number.
        x = line(3);
        x.rider(2, 7, 0, 100, 1);
        x.rider(0, 7, 0, 100, 1);
        due("the least number", x.next(0, 1), 0);
    }

    private static void nextsOnDuty() {
        NightRiders x = line(3);
        x.rest(0);
        x.rider(0, 7, 0, 19, 1);
        due("behind b", x.next(0, 2), -1);
        due("ahead of b", x.next(0, 1), 0);
        x.rider(0, 7, 30, 50, 1);
        due("another one", x.next(0, 2), 1);
        x.rider(0, 7, 0, 20, 1);
        due("at b", x.next(0, 2), 2);
        // One that has ridden fewer legs is passed over, if it would be there behind its b.
        x = line(3);
        x.rest(0);
        x.rider(0, 7, 0, 5, 3);
        x.rider(0, 7, 0, 100, 1);
        x.call(0, 0, 1, 0, 10);
        due("send", x.send(0), 10);
        due("by", x.leg(0, 0, 0), 1);
        due("not the one behind b", x.next(0, 2), 1);
    }
}
