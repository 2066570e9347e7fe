import java.util.function.Supplier;

/**
 * Term 2 of the document and the promises on calls: each bound that it names, on both sides, and behind each refused call
 * the state as ahead of it. Every test bears the sentence that it is of.
 */
public final class ChainBoundTests {
    private static final int LEAST = Probe.LEAST;
    private static final int MOST = Probe.MOST;
    private static final Probe probe = new Probe("ChainBoundTests");

    public static void main(String[] args) {
        callsAtMostForty();
        kindOfACall();
        callFromAPlaceToAnotherOne();
        readyIsAMinute();
        coldFromOneTo2000();
        chainOfOneLeg();
        chainOfThreeLegs();
        chainOfAnotherRiderEach();
        chainOfRidersThatMayCarryTheKind();
        chainOfRidersThatHaveNotFailed();
        chainOfNoPlaceTwice();
        startsWhenTheRiderIsThere();
        startsWhenTheBoxIsThere();
        endsOnDuty();
        waitsOnDuty();
        lastOneWaitsForNobody();
        bestEndsEarliest();
        equalChainsOfFewestLegs();
        equalChainsOfTheLessFirstRider();
        equalChainsOfTheLessFirstPlace();
        equalChainsOfTheLessSecondRider();
        equalChainsOfTheLessSecondPlace();
        equalChainsOfTheLessThirdRider();
        warmBehindCold();
        bestOfNoSuchCall();
        bestOfOneSent();
        bestThatThereIsNot();
        sentFreesBehindTheHandOver();
        sendOfNoSuchCall();
        sendOfOneSent();
        sendThatThereIsNot();
        toldOfNoSuch();
        toldOfOneNotSentSentLost();
        legOfNoSuch();
        legsHaveBounds();
        handOfNoSuch();
        handAtEachBound();
        handOfOneLost();
        handNoneAheadOfOthers();
        failsFromItsStartsToItsEnds();
        failsAtItsStarts();
        failsAtItsEnds();
        failOfAnotherCall();
        failOfNoSuchLeg();
        failOfOneThatFailed();
        failTakesWhatIsBehindAway();
        failGoesOnFromThere();
        failWithoutAnother();
        failUntilNobodyIsLeft();
        failTwelveLegs();
        boxesTillTheLastMinute();
        lastCallOfAll();
        probe.end();
    }

    private static void due(String what, long got, long want) {
        probe.due(what, got, want);
    }

    private static void dueLeg(String what, NightRiders x, int call, int i, int... want) {
        for (int asked = 0; asked < want.length; asked++) {
            due(what + ", leg " + i + ", what " + asked, x.leg(call, i, asked), want[asked]);
        }
    }

    /** Two places 10 minutes apart, one rider on duty all the time, one call: ready at a minute, cold as told. */
    private static NightRiders oneCall(int ready, int cold) {
        NightRiders x = Probe.line(2);
        x.rider(0, 3, 0, 4319, 1);
        x.call(0, 0, 1, ready, cold);
        return x;
    }

    /** Places in a row and a rider for each road alone; a call from end to end. */
    private static NightRiders relay(int roads) {
        NightRiders x = Probe.line(roads + 1);
        for (int i = 0; i < roads; i++) {
            x.rider(i, 3 << i, 0, 4319, 1);
        }
        x.call(0, 0, roads, 0, 100);
        return x;
    }

    // ---- promise 11

    private static void callsAtMostForty() {
        NightRiders x = Probe.withPlaces(2);
        for (int n = 0; n < 40; n++) {
            due("call " + n, x.call(n % 4, n % 2, 1 - n % 2, n, n + 1), n);
            due("calls", x.count(2), n + 1);
        }
        due("call 40", x.call(0, 0, 1, 0, 1), -1);
        due("call 39 is there", x.told(39, 4), 40);
        due("call 40 is not there", x.told(40, 4), -1);
        probe.refused("call 40 of a full object", Probe::full, y -> y.call(0, 0, 1, 0, 1), -1);
        // One that is lost, or sent, is a call still: it makes no room.
        Supplier<NightRiders> lost = () -> {
            NightRiders y = Probe.busy();
            for (int n = 4; n < 40; n++) {
                y.call(0, 0, 1, 0, 1);
            }
            return y;
        };
        due("calls with a lost one", lost.get().count(2), 40);
        probe.refused("call 40 with a lost one", lost, y -> y.call(0, 0, 1, 0, 1), -1);
    }

    private static void kindOfACall() {
        probe.bounds("call of kind", Probe::small, 0, 3, (x, v) -> x.call(v, 0, 1, 0, 1), 2, 2);
    }

    private static void callFromAPlaceToAnotherOne() {
        probe.bounds("call from", Probe::small, 0, 2, (x, v) -> x.call(0, v, 1, 0, 1), 2, 2);
        probe.bounds("call to", Probe::small, 0, 2, (x, v) -> x.call(0, 1, v, 0, 1), 2, 2);
        due("call from the last of eight", calledOfEight(7, 0), 0);
        due("call to the last of eight", calledOfEight(0, 7), 0);
        probe.outside("call from one of eight", () -> Probe.withPlaces(8), 0, 7, (x, v) -> x.call(0, v, 1, 0, 1), -1);
        probe.outside("call to one of eight", () -> Probe.withPlaces(8), 0, 7, (x, v) -> x.call(0, 1, v, 0, 1), -1);
        probe.outside("call of no place alone", Probe::small, 0, 2, (x, v) -> x.call(0, v, v, 0, 1), -1);
        for (int p = 0; p < 3; p++) {
            int place = p;
            probe.refused("call of one place alone " + p, Probe::small, x -> x.call(0, place, place, 0, 1), -1);
        }
        // Whether there is a way is not asked ahead of best().
        due("call without a road or a rider", Probe.withPlaces(2).call(3, 1, 0, 4319, 1), 0);
    }

    private static int calledOfEight(int from, int to) {
        return Probe.withPlaces(8).call(0, from, to, 0, 1);
    }

    private static void readyIsAMinute() {
        probe.bounds("call ready at", Probe::small, 0, 4319, (x, v) -> x.call(0, 0, 1, v, 1), 2, 2);
        due("ready at the last minute, but there is no time", oneCall(4319, 1).best(0), -1);
        due("ready 9 ahead of it: no time", oneCall(4310, 1).best(0), -1);
        due("ready 10 ahead of it", oneCall(4309, 1).best(0), 4319);
        due("ready at the first minute", oneCall(0, 1).best(0), 10);
    }

    private static void coldFromOneTo2000() {
        probe.bounds("call cold for", Probe::small, 1, 2000, (x, v) -> x.call(0, 0, 1, 0, v), 2, 2);
        probe.refused("call cold for 0", Probe::small, x -> x.call(0, 0, 1, 0, 0), -1);
        due("cold for 1", oneCall(0, 1).told(0, 4), 1);
        due("cold for 2000", oneCall(0, 2000).told(0, 4), 2000);
    }

    // ---- the chain

    private static void chainOfOneLeg() {
        NightRiders x = relay(1);
        due("one leg", x.send(0), 10);
        due("legs", x.told(0, 6), 1);
        dueLeg("one", x, 0, 0, 0, 0, 1, 0, 10, 0);
        // No leg: a box can't be where it goes to ahead of the first one.
        due("no leg", Probe.line(2).call(0, 1, 1, 0, 1), -1);
        NightRiders nobody = Probe.line(2);
        nobody.call(0, 0, 1, 0, 1);
        due("no rider for a leg", nobody.best(0), -1);
    }

    private static void chainOfThreeLegs() {
        NightRiders x = relay(2);
        due("two legs", x.send(0), 20);
        due("legs of two", x.told(0, 6), 2);
        x = relay(3);
        due("three legs", x.send(0), 30);
        due("legs of three", x.told(0, 6), 3);
        for (int i = 0; i < 3; i++) {
            dueLeg("three", x, 0, i, i, i, i + 1, 10 * i, 10 * i + 10, 0);
        }
        due("four legs", relay(4).best(0), -1);
        probe.refused("four legs", () -> relay(4), y -> y.send(0), -1);
        // With one who does two of the four roads, three legs do it.
        for (int i = 0; i < 3; i++) {
            x = relay(4);
            x.rider(i, 7 << i, 0, 4319, 1);
            due("four roads, three legs", x.send(0), 40);
            due("legs of four roads", x.told(0, 6), 3);
        }
        // Four legs would be sooner; three are what there is.
        x = relay(4);
        x.road(0, 4, 600);
        x.rider(0, 17, 0, 4319, 1);
        due("later, but of one leg", x.best(0), 600);
    }

    private static void chainOfAnotherRiderEach() {
        // Rider 0 could take it from 0 to 1, and be at 2 in time to take it from there too; rider 1 alone goes over 4.
        NightRiders x = Probe.withPlaces(5);
        x.road(0, 1, 10);
        x.road(1, 4, 10);
        x.road(4, 2, 10);
        x.road(2, 3, 10);
        x.road(0, 2, 300);
        x.rider(0, 15, 0, 4319, 1);
        x.rider(1, 22, 0, 4319, 1);
        x.call(0, 0, 3, 300, 100);
        due("no rider rides two legs", x.best(0), 610);
        x.rider(2, 12, 0, 4319, 1);
        due("three riders, a leg each", x.send(0), 340);
        dueLeg("the third one", x, 0, 2, 2, 2, 3, 330, 340, 0);
    }

    private static void chainOfRidersThatMayCarryTheKind() {
        for (int kind = 0; kind <= 3; kind++) {
            NightRiders x = Probe.line(3);
            x.rider(0, 3, 0, 4319, 1 << kind);
            x.rider(1, 6, 0, 4319, 15 ^ 1 << kind);
            x.call(kind, 0, 2, 0, 100);
            x.call(kind, 0, 1, 0, 100);
            due("the second may not carry it", x.best(0), -1);
            due("the first may carry it", x.best(1), 10);
            x.rider(1, 6, 50, 4319, 1 << kind);
            due("the third may carry it", x.best(0), 60);
            x.rider(0, 7, 0, 4319, 0);
            due("one that may carry nothing", x.best(0), 60);
        }
    }

    private static void chainOfRidersThatHaveNotFailed() {
        NightRiders x = Probe.line(2);
        x.rest(0);
        x.rider(0, 3, 0, 4319, 1);
        x.rider(0, 3, 100, 4319, 3);
        x.call(0, 0, 1, 0, 100);
        x.call(0, 0, 1, 0, 100);
        x.call(1, 1, 0, 0, 100);
        due("ahead of failing", x.best(1), 10);
        due("send", x.send(0), 10);
        due("fail where it began", x.fail(0, 0, 0), 110);
        due("it rides never more, though it lies there", x.best(1), 130);
        due("another one rides", x.send(1), 130);
        due("by the other one", x.leg(1, 0, 0), 1);
        due("the other one fails too", x.fail(1, 0, 125), -2);
        due("nobody is left for its kind", x.best(2), -1);
    }

    private static void chainOfNoPlaceTwice() {
        // Back to where the box is from, for one who takes it the other way: the first place too is no place twice.
        NightRiders x = Probe.withPlaces(3);
        x.road(0, 1, 10);
        x.road(0, 2, 10);
        x.rider(0, 3, 0, 10, 1);
        x.rider(1, 3, 0, 4319, 1);
        x.rider(2, 5, 0, 5, 1);
        x.call(0, 0, 2, 0, 100);
        due("by nobody", x.best(0), -1);
        x.rider(2, 5, 20, 4319, 1);
        due("by the one who goes the other way", x.send(0), 40);
        due("alone", x.told(0, 6), 1);
        // From a place to itself is no leg: the second one could only keep it there for the third one.
        x = Probe.line(3);
        x.rider(0, 3, 0, 29, 1);
        x.rider(1, 2, 0, 4319, 1);
        x.rider(1, 6, 30, 4319, 1);
        x.call(0, 0, 2, 0, 100);
        due("kept by nobody", x.best(0), -1);
        x.rider(0, 3, 0, 30, 1);
        due("kept by the first one", x.best(0), 40);
        // A leg's way may go over a place of the chain: that is none where it begins or ends.
        x = Probe.withPlaces(4);
        x.road(0, 1, 10);
        x.road(0, 2, 10);
        x.road(2, 3, 10);
        x.rider(0, 3, 0, 4319, 1);
        x.rider(1, 7, 0, 10, 1);
        x.rider(1, 15, 20, 4319, 1);
        x.call(0, 0, 3, 0, 100);
        due("over a place where it was", x.best(0), 50);
    }

    private static void startsWhenTheRiderIsThere() {
        NightRiders x = Probe.line(3);
        x.rider(1, 7, 40, 4319, 1);
        x.rest(9);
        x.call(0, 0, 2, 49, 100);
        x.call(0, 0, 1, 50, 100);
        x.call(0, 0, 1, 51, 100);
        due("there at 50, ready at 49", x.best(0), 70);
        due("there at 50, ready at 50", x.best(1), 60);
        due("there at 50, ready at 51", x.best(2), 61);
        due("send", x.send(0), 70);
        due("its start", x.leg(0, 0, 3), 50);
        due("free at 79, there at 99", x.best(1), 109);
    }

    private static void startsWhenTheBoxIsThere() {
        for (int from = 9; from <= 11; from++) {
            NightRiders x = Probe.line(3);
            x.rest(0);
            x.rider(0, 3, 0, 4319, 1);
            x.rider(1, 6, from, 4319, 1);
            x.call(0, 0, 2, 0, 100);
            int starts = from < 10 ? 10 : from;
            due("the box at 10, the rider at " + from, x.send(0), starts + 10);
            dueLeg("handed on", x, 0, 0, 0, 0, 1, 0, 10, 0);
            dueLeg("handed on", x, 0, 1, 1, 1, 2, starts, starts + 10, 0);
            due("free behind the hand-over", x.of(0, 2), starts);
            due("minutes with the box on its way", x.of(0, 4), 10);
        }
    }

    private static void endsOnDuty() {
        for (int to = 29; to <= 31; to++) {
            NightRiders x = Probe.line(3);
            x.rider(0, 7, 0, to, 1);
            x.call(0, 0, 2, 10, 100);
            due("ends at 30, on duty to " + to, x.best(0), to < 30 ? -1 : 30);
            x = Probe.line(3);
            x.rider(0, 3, 0, to - 10, 1);
            x.rider(1, 6, 0, 4319, 1);
            x.call(0, 0, 2, 10, 100);
            due("the first leg ends at 20, on duty to " + (to - 10), x.best(0), to < 30 ? -1 : 30);
            x = Probe.line(3);
            x.rider(0, 3, 0, 4319, 1);
            x.rider(1, 6, 0, to, 1);
            x.call(0, 0, 2, 10, 100);
            due("the last leg ends at 30, on duty to " + to, x.best(0), to < 30 ? -1 : 30);
        }
    }

    private static void waitsOnDuty() {
        for (int to = 39; to <= 41; to++) {
            NightRiders x = Probe.line(3);
            x.rider(0, 3, 0, to, 1);
            x.rider(1, 6, 40, 4319, 1);
            x.call(0, 0, 2, 0, 100);
            due("handed on at 40, on duty to " + to, x.best(0), to < 40 ? -1 : 50);
            x = Probe.line(4);
            x.rider(0, 3, 0, 10, 1);
            x.rider(1, 6, 0, to, 1);
            x.rider(2, 12, 40, 4319, 1);
            x.call(0, 0, 3, 0, 100);
            due("the second hands on at 40, on duty to " + to, x.best(0), to < 40 ? -1 : 50);
        }
    }

    private static void lastOneWaitsForNobody() {
        NightRiders x = relay(2);
        x.rider(0, 3, 0, 10, 2);
        x.rider(1, 6, 10, 20, 2);
        x.call(1, 0, 2, 0, 100);
        due("each to its b", x.send(1), 20);
        due("rest is behind b", x.of(2, 2), 40);
        due("it is on no duty then", x.duty(21, 1), 0);
    }

    // ---- the best of them

    private static void bestEndsEarliest() {
        for (int minutes = 19; minutes <= 21; minutes++) {
            NightRiders x = Probe.line(3);
            x.road(0, 2, minutes);
            x.rider(0, 5, 0, 4319, 1);
            x.rider(0, 3, 0, 4319, 1);
            x.rider(1, 6, 0, 4319, 1);
            x.call(0, 0, 2, 0, 100);
            due("two legs of 20, or one of " + minutes, x.send(0), minutes < 20 ? minutes : 20);
            due("legs", x.told(0, 6), minutes <= 20 ? 1 : 2);
        }
    }

    private static void equalChainsOfFewestLegs() {
        // Three, two and one: each time the riders of more legs are the less ones.
        NightRiders x = relay(3);
        due("three legs", x.best(0), 30);
        x.rider(1, 14, 0, 4319, 1);
        NightRiders two = relay(3);
        two.rider(1, 14, 0, 4319, 1);
        due("two legs as soon", two.send(0), 30);
        due("two legs", two.told(0, 6), 2);
        dueLeg("two", two, 0, 1, 3, 1, 3, 10, 30, 0);
        x.rider(0, 15, 0, 4319, 1);
        due("one leg as soon", x.send(0), 30);
        due("one leg", x.told(0, 6), 1);
        dueLeg("one", x, 0, 0, 4, 0, 3, 0, 30, 0);
    }

    private static void equalChainsOfTheLessFirstRider() {
        NightRiders x = Probe.line(2);
        x.rider(1, 3, 0, 4319, 1);
        for (int n = 0; n < 3; n++) {
            x.rider(0, 3, 0, 4319, 1);
        }
        x.call(0, 0, 1, 0, 100);
        x.call(0, 0, 1, 10, 100);
        due("three are there at once", x.send(0), 10);
        due("the least of these", x.leg(0, 0, 0), 1);
        due("four are there in time", x.send(1), 20);
        due("the least of those", x.leg(1, 0, 0), 0);
        // The less first rider, over the place that is not the less one.
        x = Probe.withPlaces(4);
        x.road(0, 1, 10);
        x.road(0, 2, 10);
        x.road(1, 3, 10);
        x.road(2, 3, 10);
        x.rider(0, 5, 0, 4319, 1);
        x.rider(0, 3, 0, 4319, 1);
        x.rider(1, 10, 0, 4319, 1);
        x.rider(2, 12, 0, 4319, 1);
        x.call(0, 0, 3, 0, 100);
        due("over either", x.send(0), 20);
        dueLeg("the less rider ahead of the less place", x, 0, 0, 0, 0, 2);
        dueLeg("and of the less second rider", x, 0, 1, 3, 2, 3);
    }

    private static void equalChainsOfTheLessFirstPlace() {
        // The place where the call goes to is the least one, and of no help to either.
        NightRiders x = Probe.withPlaces(4);
        x.road(3, 1, 10);
        x.road(3, 2, 10);
        x.road(1, 0, 10);
        x.road(2, 0, 10);
        x.rider(2, 5, 0, 4319, 1);
        x.rider(1, 3, 0, 4319, 1);
        x.rider(3, 14, 0, 4319, 1);
        x.call(0, 3, 0, 0, 100);
        due("over either", x.send(0), 20);
        dueLeg("the less place", x, 0, 0, 2, 3, 1);
        dueLeg("ahead of the less second rider", x, 0, 1, 1, 1, 0);
    }

    private static void equalChainsOfTheLessSecondRider() {
        NightRiders x = Probe.line(3);
        x.rider(1, 6, 0, 4319, 2);
        x.rider(1, 6, 0, 4319, 1);
        x.rider(1, 6, 0, 4319, 1);
        x.rider(0, 3, 0, 4319, 1);
        x.call(0, 0, 2, 0, 100);
        due("by either", x.send(0), 20);
        dueLeg("the only first one", x, 0, 0, 3);
        dueLeg("the less second one that may carry it", x, 0, 1, 1);
        // The less second rider, over the second place that is not the less one.
        x = overTwoOrThree(10);
        x.rider(0, 3, 0, 4319, 1);
        x.rider(1, 10, 0, 4319, 1);
        x.rider(1, 6, 0, 4319, 1);
        x.rider(3, 24, 0, 4319, 1);
        x.rider(2, 20, 0, 4319, 1);
        due("over either", x.send(0), 30);
        dueLeg("the less second rider", x, 0, 1, 1, 1, 3);
        dueLeg("ahead of the less second place", x, 0, 2, 3, 3, 4);
    }

    private static void equalChainsOfTheLessSecondPlace() {
        for (int minutes = 9; minutes <= 11; minutes++) {
            NightRiders x = overTwoOrThree(minutes);
            x.rider(0, 3, 0, 4319, 1);
            x.rider(1, 14, 0, 4319, 1);
            x.rider(3, 24, 0, 4319, 1);
            x.rider(2, 20, 0, 4319, 1);
            due("over either, " + minutes, x.send(0), minutes == 9 ? 29 : 30);
            dueLeg("the less second place, or the sooner one", x, 0, 1, 1, 1, minutes == 9 ? 3 : 2);
            dueLeg("ahead of the less third rider", x, 0, 2, minutes == 9 ? 2 : 3);
        }
    }

    private static void equalChainsOfTheLessThirdRider() {
        for (int from = 19; from <= 21; from++) {
            NightRiders x = Probe.line(4);
            x.rider(2, 12, from, 4319, 1);
            x.rider(2, 12, 20, 4319, 1);
            x.rider(2, 12, 0, 4319, 1);
            x.rider(0, 3, 0, 4319, 1);
            x.rider(1, 6, 0, 4319, 1);
            x.call(0, 0, 3, 0, 100);
            due("three legs", x.send(0), 30);
            dueLeg("the first one, rider 0 there at " + from, x, 0, 0, 3);
            dueLeg("the second one", x, 0, 1, 4);
            dueLeg("the less third one that is in time", x, 0, 2, from <= 20 ? 0 : 1);
        }
    }

    /** From 0 to 1, from there over 2 or 3 to 4: roads of 10 minutes, but for the one from 3 to 4; and a call from 0 to 4. */
    private static NightRiders overTwoOrThree(int minutesFromThree) {
        NightRiders x = Probe.withPlaces(5);
        x.road(0, 1, 10);
        x.road(1, 2, 10);
        x.road(1, 3, 10);
        x.road(2, 4, 10);
        x.road(3, 4, minutesFromThree);
        x.call(0, 0, 4, 0, 100);
        return x;
    }

    private static void warmBehindCold() {
        for (int cold = 9; cold <= 11; cold++) {
            NightRiders x = oneCall(100, cold);
            due("not sent is not warm", x.count(5), 0);
            due("send", x.send(0), 110);
            due("10 behind ready, cold for " + cold, x.count(5), cold < 10 ? 1 : 0);
        }
        // 2000 minutes and one more.
        for (int from = 2090; from <= 2091; from++) {
            NightRiders x = Probe.line(2);
            x.rider(0, 3, from, 4319, 1);
            x.call(0, 0, 1, 100, 2000);
            due("send", x.send(0), from + 10);
            due("cold for 2000, there at " + (from + 10), x.count(5), from == 2090 ? 0 : 1);
        }
        // It is the last end that counts, also when a leg has failed; a lost one came not at all.
        NightRiders x = Probe.line(2);
        x.rider(0, 3, 0, 4319, 1);
        x.rider(0, 3, 0, 4319, 1);
        x.call(0, 0, 1, 0, 10);
        x.send(0);
        due("cold still", x.count(5), 0);
        due("one minute later", x.fail(0, 0, 1), 11);
        due("warm by one minute", x.count(5), 1);
        due("lost", x.fail(0, 1, 11), -2);
        due("lost, not warm", x.count(5), 0);
    }

    // ---- promises 12 and 13

    private static void bestOfNoSuchCall() {
        due("best of the first call", Probe.small().best(0), 30);
        due("best of the last call", Probe.small().best(1), 25);
        probe.outside("best of", Probe::small, 0, 1, (x, v) -> x.best(v), -1);
        probe.outside("best of one of forty", Probe::full, 0, 39, (x, v) -> x.best(v), -1);
        due("best of the last of forty", Probe.full().best(39) > 0 ? 1 : 0, 1);
        // The answer is there and the state as it was.
        probe.refused("best that is told", Probe::small, x -> x.best(0), 30);
        probe.refused("best that is told, again", Probe::busy, x -> x.best(2), 1030);
    }

    private static void bestOfOneSent() {
        probe.refused("best of one sent", Probe::busy, x -> x.best(1), -1);
        probe.refused("best of one lost", Probe::busy, x -> x.best(0), -1);
        due("best of one not sent", Probe.busy().best(2), 1030);
    }

    private static void bestThatThereIsNot() {
        probe.refused("best without a rider for it", Probe::busy, x -> x.best(3), -1);
        NightRiders x = Probe.small();
        x.road(0, 1, 0);
        due("best without a road", x.best(0), -1);
        x.road(0, 1, 600);
        due("best with a road too long for its duty", x.best(0), -1);
        x.road(0, 1, 80);
        due("best with a road as long as its duty", x.best(0), 100);
        x.road(0, 1, 81);
        due("handed on at place 1", x.best(0), 101);
        x.road(0, 1, 91);
        due("one minute too long", x.best(0), -1);
    }

    private static void sentFreesBehindTheHandOver() {
        NightRiders x = Probe.line(4);
        x.rest(600);
        x.rider(0, 3, 0, 4319, 1);
        x.rider(1, 6, 15, 4319, 1);
        x.rider(2, 12, 30, 4319, 1);
        x.call(0, 0, 3, 0, 100);
        due("send", x.send(0), 40);
        int[][] want = {{1, 615, 1, 10}, {2, 630, 1, 10}, {3, 640, 1, 10}};
        for (int r = 0; r < 3; r++) {
            for (int what = 1; what <= 4; what++) {
                due("rider " + r + ", what " + what, Probe.of(x, r, what), want[r][what - 1]);
            }
        }
    }

    private static void sendOfNoSuchCall() {
        due("send of the first call", Probe.small().send(0), 30);
        due("send of the last call", Probe.small().send(1), 25);
        probe.outside("send of", Probe::small, 0, 1, (x, v) -> x.send(v), -1);
        probe.outside("send of one of forty", Probe::full, 0, 39, (x, v) -> x.send(v), -1);
    }

    private static void sendOfOneSent() {
        probe.refused("send of one sent", Probe::busy, x -> x.send(1), -1);
        probe.refused("send of one lost", Probe::busy, x -> x.send(0), -1);
        due("send of one not sent", Probe.busy().send(2), 1030);
    }

    private static void sendThatThereIsNot() {
        probe.refused("send without a rider for it", Probe::busy, x -> x.send(3), -1);
        // A refused send is not the last one: the leg of the one ahead may still fail.
        NightRiders x = Probe.busy();
        due("refused", x.send(3), -1);
        due("sent ahead of it", x.fail(1, 2, 25) > 0 ? 1 : 0, 1);
        x = Probe.busy();
        due("send", x.send(2), 1030);
        due("no more the last one", x.fail(1, 2, 25), -1);
        // One that could not be sent is sent later, when there is a chain.
        x = Probe.line(2);
        x.call(0, 0, 1, 0, 100);
        due("nobody there", x.send(0), -1);
        x.rider(0, 3, 0, 4319, 1);
        due("somebody there", x.send(0), 10);
    }

    // ---- promises 14 and 15

    private static void toldOfNoSuch() {
        int[] want = {1, 1, 0, 0, 1, 0, 0, -1};
        for (int what = 0; what <= 7; what++) {
            due("told " + what, Probe.small().told(1, what), want[what]);
            int asked = what;
            probe.outside("told " + what + " of", Probe::small, 0, 1, (x, v) -> x.told(v, asked), -1);
        }
        probe.outside("told", Probe::small, 0, 7, (x, v) -> x.told(0, v), -1);
        probe.outside("told of one lost", Probe::busy, 0, 7, (x, v) -> x.told(0, v), -1);
        probe.outside("told of one of forty", Probe::full, 0, 39, (x, v) -> x.told(v, 3), -1);
        due("told of the last of forty", Probe.full().told(39, 3), 390);
    }

    private static void toldOfOneNotSentSentLost() {
        // A lost one, one that was sent, one that can be sent, one that can't be.
        NightRiders x = Probe.busy();
        int[][] want = {{2, 1, -1}, {1, 3, 30}, {0, 0, -1}, {0, 0, -1}};
        for (int c = 0; c < 4; c++) {
            for (int what = 5; what <= 7; what++) {
                due("told " + what + " of " + c, x.told(c, what), want[c][what - 5]);
            }
        }
    }

    private static void legOfNoSuch() {
        NightRiders x = Probe.busy();
        dueLeg("the first", x, 1, 0, 0, 0, 1, 0, 10, 0);
        dueLeg("the last", x, 1, 2, 2, 2, 3, 20, 30, 0);
        probe.outside("leg", Probe::busy, 0, 2, (y, v) -> y.leg(1, v, 0), -1);
        probe.outside("leg what", Probe::busy, 0, 5, (y, v) -> y.leg(1, 0, v), -1);
        probe.outside("leg of", Probe::busy, 0, 3, (y, v) -> y.leg(v, 0, 0), -1);
        probe.outside("leg of one lost", Probe::busy, 0, 0, (y, v) -> y.leg(0, v, 5), -1);
        for (int what = 0; what <= 5; what++) {
            int asked = what;
            probe.refused("leg of one not sent", Probe::busy, y -> y.leg(2, 0, asked), -1);
            probe.refused("leg behind the last one", Probe::busy, y -> y.leg(1, 3, asked), -1);
        }
    }

    private static void legsHaveBounds() {
        // A failed leg ends where it began, at any minute from its start on.
        NightRiders x = Probe.busy();
        dueLeg("failed", x, 0, 0, 4, 0, 0, 0, 12, 1);
        due("no leg behind it", x.leg(0, 1, 0), -1);
        due("legs", x.told(0, 6), 1);
    }

    // ---- promise 16

    private static void handOfNoSuch() {
        probe.bounds("hand at", Probe::busy, 0, 4319, (x, v) -> x.hand(1, v), 0, -3);
        probe.outside("hand at, of one lost", Probe::busy, 0, 4319, (x, v) -> x.hand(0, v), -1);
        probe.outside("hand of", Probe::busy, 0, 3, (x, v) -> x.hand(v, 5), -1);
        probe.outside("hand of one of forty", Probe::full, 0, 39, (x, v) -> x.hand(v, 5), -1);
    }

    private static void handAtEachBound() {
        NightRiders x = Probe.line(3);
        x.rider(1, 3, 5, 4319, 1);
        x.rider(1, 6, 40, 4319, 1);
        x.call(0, 0, 2, 12, 100);
        due("send", x.send(0), 50);
        int[][] want = {
            {0, -2}, {11, -2}, {12, -2}, {14, -2}, {15, 0}, {16, 0}, {25, 0}, {26, 0}, {39, 0}, {40, 1}, {49, 1}, {50, 1},
            {51, -3}, {4319, -3},
        };
        for (int[] row : want) {
            due("hand at " + row[0], x.hand(0, row[0]), row[1]);
        }
        // Both in one minute: the one that starts with it.
        x = relay(3);
        x.send(0);
        int[][] then = {{0, 0}, {9, 0}, {10, 1}, {19, 1}, {20, 2}, {30, 2}, {31, -3}};
        for (int[] row : then) {
            due("hand on the relay at " + row[0], x.hand(0, row[0]), row[1]);
        }
        // Ready and in its hand at once: nothing ahead of minute 0.
        due("in its hand from minute 0 on", x.hand(0, 0), 0);
        due("minute -1", x.hand(0, -1), -1);
    }

    private static void handOfOneLost() {
        int[][] want = {{0, 4}, {1, 4}, {11, 4}, {12, 4}, {13, -3}, {20, -3}, {4319, -3}};
        for (int[] row : want) {
            due("hand of one lost, at " + row[0], Probe.busy().hand(0, row[0]), row[1]);
        }
        NightRiders x = oneCall(10, 100);
        x.send(0);
        due("lost at its start", x.fail(0, 0, 10), -2);
        due("ahead of it", x.hand(0, 9), -2);
        due("at it", x.hand(0, 10), 0);
        due("behind it", x.hand(0, 11), -3);
    }

    private static void handNoneAheadOfOthers() {
        // Not sent, and not ready yet, or long behind: NONE and not -2, or -3.
        for (int minute : new int[] {0, 999, 1000, 4319}) {
            probe.refused("hand of one not sent, at " + minute, Probe::busy, x -> x.hand(2, minute), -1);
        }
        probe.refused("hand of one lost, behind all minutes", Probe::busy, x -> x.hand(0, 4320), -1);
        probe.refused("hand of one that came, behind all minutes", Probe::busy, x -> x.hand(1, 4320), -1);
        probe.refused("hand ahead of all minutes", Probe::busy, x -> x.hand(1, -1), -1);
        // Refused, and not lost, though nobody else could go on.
        probe.refused("fail of one lost", Probe::busy, x -> x.fail(0, 0, 12), -1);
        Supplier<NightRiders> one = () -> {
            NightRiders x = oneCall(10, 100);
            x.send(0);
            return x;
        };
        probe.refused("fail one ahead of its start", one, x -> x.fail(0, 0, 9), -1);
        probe.refused("fail one behind its end", one, x -> x.fail(0, 0, 21), -1);
        due("fail at its end", one.get().fail(0, 0, 20), -2);
    }

    // ---- promise 17

    private static void failsFromItsStartsToItsEnds() {
        for (int i = 0; i < 3; i++) {
            int leg = i;
            int starts = 10 * i;
            for (int minute : new int[] {starts, starts + 1, starts + 9, starts + 10}) {
                NightRiders x = Probe.busy();
                // Rider 3 goes for it from place 3 at minute 1000: as far as to where the leg began, and back.
                int end = 1000 + 20 * (3 - leg);
                due("fail of leg " + i + " at " + minute, x.fail(1, i, minute), end);
                dueLeg("failed at " + minute, x, 1, i, i, i, i, starts, minute, 1);
                due("its minutes with boxes", x.of(i, 4), minute - starts);
                due("its place", x.of(i, 1), i);
                due("it has failed", x.of(i, 2), -1);
                due("last end", x.told(1, 7), end);
            }
            probe.outside("fail of leg " + i + " at", Probe::busy, starts, starts + 10, (x, v) -> x.fail(1, leg, v), -1);
        }
    }

    private static void failsAtItsStarts() {
        NightRiders x = Probe.line(2);
        x.rider(0, 3, 0, 4319, 1);
        x.rider(0, 3, 0, 4319, 1);
        x.call(0, 0, 1, 7, 100);
        due("send", x.send(0), 17);
        due("the other one goes on at once", x.fail(0, 0, 7), 17);
        dueLeg("of no minutes", x, 0, 0, 0, 0, 0, 7, 7, 1);
        dueLeg("as soon", x, 0, 1, 1, 0, 1, 7, 17, 0);
        due("in whose hand: the latest leg", x.hand(0, 7), 1);
        due("in nobody's ahead", x.hand(0, 6), -2);
        due("a leg of no minutes is a leg", x.of(0, 3), 1);
        due("minutes", x.of(0, 4), 0);
    }

    private static void failsAtItsEnds() {
        NightRiders x = Probe.line(2);
        x.rider(0, 3, 0, 4319, 1);
        x.rider(1, 3, 0, 4319, 1);
        x.call(0, 0, 1, 7, 100);
        due("send", x.send(0), 17);
        due("the other one goes for it", x.fail(0, 0, 17), 27);
        dueLeg("of all its minutes", x, 0, 0, 0, 0, 0, 7, 17, 1);
        dueLeg("from where it began", x, 0, 1, 1, 0, 1, 17, 27, 0);
        due("in its hand to the end", x.hand(0, 16), 0);
        due("then in the other one's", x.hand(0, 17), 1);
        due("minutes", x.of(0, 4), 10);
    }

    private static void failOfAnotherCall() {
        for (int call : new int[] {LEAST, -2, -1, 0, 2, 3, 4, 8, 33, MOST}) {
            for (int minute : new int[] {0, 12, 25}) {
                probe.refused("fail of call " + call, Probe::busy, x -> x.fail(call, 0, minute), -1);
            }
        }
        due("fail of the one sent last", Probe.busy().fail(1, 0, 5), 1060);
        // The last one is the one that was sent last, not the one of the greatest number.
        NightRiders x = Probe.line(2);
        x.rest(0);
        x.rider(0, 3, 0, 4319, 1);
        x.call(0, 0, 1, 0, 100);
        x.call(0, 1, 0, 0, 100);
        x.call(0, 0, 1, 0, 100);
        due("send of call 1", x.send(1), 20);
        due("send of call 0", x.send(0), 30);
        due("call 1 is not the last one", x.fail(1, 0, 15), -1);
        due("nor is call 2", x.fail(2, 0, 0), -1);
        due("call 0 is", x.fail(0, 0, 25), -2);
        due("nothing is left of it", x.fail(0, 0, 25), -1);
    }

    private static void failOfNoSuchLeg() {
        probe.outside("fail of leg", Probe::busy, 0, 2, (x, v) -> x.fail(1, v, 20), -1);
        for (int minute : new int[] {LEAST, -1, 0, 30, 31, MOST}) {
            probe.refused("fail of leg 3 at " + minute, Probe::busy, x -> x.fail(1, 3, minute), -1);
        }
        // A leg that is gone is no such leg.
        Supplier<NightRiders> gone = () -> {
            NightRiders x = relay(3);
            x.send(0);
            x.fail(0, 1, 15);
            return x;
        };
        due("lost with two legs", gone.get().told(0, 6), 2);
        probe.refused("fail of a gone leg", gone, x -> x.fail(0, 2, 25), -1);
        probe.refused("leg that is gone", gone, x -> x.leg(0, 2, 0), -1);
    }

    private static void failOfOneThatFailed() {
        Supplier<NightRiders> failed = () -> {
            NightRiders x = Probe.busy();
            x.fail(1, 1, 15);
            return x;
        };
        due("legs then", failed.get().told(1, 6), 3);
        for (int minute = 9; minute <= 21; minute++) {
            int at = minute;
            probe.refused("it failed, at " + minute, failed, x -> x.fail(1, 1, at), -1);
        }
        for (int minute = -1; minute <= 11; minute++) {
            int at = minute;
            probe.refused("one behind it failed, at " + minute, failed, x -> x.fail(1, 0, at), -1);
        }
        int starts = failed.get().leg(1, 2, 3);
        due("the next one starts", starts, 1020);
        due("the next one fails where it starts", failed.get().fail(1, 2, starts), -2);
        probe.refused("one ahead of its start", failed, x -> x.fail(1, 2, starts - 1), -1);
        due("the next one fails where it ends", failed.get().fail(1, 2, starts + 20), -2);
        probe.refused("one behind its end", failed, x -> x.fail(1, 2, starts + 21), -1);
    }

    private static void failTakesWhatIsBehindAway() {
        NightRiders x = Probe.busy();
        due("at", x.of(2, 1), 3);
        due("free", x.of(2, 2), 35);
        due("fail of the first", x.fail(1, 0, 10), 1060);
        for (int r = 1; r <= 2; r++) {
            int[] want = {r, r, 0, 0, 0};
            for (int what = 0; what <= 4; what++) {
                due("rider " + r + " as it was, " + what, Probe.of(x, r, what), want[what]);
            }
        }
        due("two legs", x.told(1, 6), 2);
        // One ahead of the failed leg stays as it is behind its own.
        x = Probe.busy();
        due("fail of the last", x.fail(1, 2, 30), 1020);
        due("the first one's place", x.of(0, 1), 1);
        due("the first one is free", x.of(0, 2), 15);
        due("the second one's place", x.of(1, 1), 2);
        due("the second one is free from the hand-over on", x.of(1, 2), 25);
        due("four legs", x.told(1, 6), 4);
    }

    private static void failGoesOnFromThere() {
        // Two roads to where it goes: who is gone with the failed leg rides again, and one of a leg ahead too.
        NightRiders x = Probe.line(3);
        x.rest(5);
        x.rider(0, 3, 0, 4319, 1);
        x.rider(1, 6, 0, 4319, 1);
        x.rider(0, 5, 0, 4319, 1);
        x.road(0, 2, 100);
        x.call(0, 0, 2, 0, 100);
        due("send", x.send(0), 20);
        due("back to where it was, then the other way", x.fail(0, 1, 12), 125);
        dueLeg("again", x, 0, 2, 0, 1, 0, 15, 25, 0);
        dueLeg("on", x, 0, 3, 2, 0, 2, 25, 125, 0);
        // The minute when the box is there, and the one when the rider is there: the later one.
        for (int minute = 14; minute <= 16; minute++) {
            x = Probe.line(3);
            x.rest(5);
            x.rider(0, 3, 0, 4319, 1);
            x.rider(1, 6, 0, 4319, 1);
            x.rider(1, 6, 15, 4319, 1);
            x.call(0, 0, 2, 0, 100);
            x.send(0);
            int starts = minute < 15 ? 15 : minute;
            due("fail at " + minute, x.fail(0, 1, minute), starts + 10);
            due("the next one starts", x.leg(0, 2, 3), starts);
        }
    }

    private static void failWithoutAnother() {
        // Who could go on is on duty to the minute when it would end, or to the one ahead.
        for (int to = 39; to <= 40; to++) {
            NightRiders x = Probe.line(2);
            x.rider(0, 3, 0, 4319, 1);
            x.rider(1, 3, 20, to, 1);
            x.call(0, 0, 1, 12, 100);
            due("send", x.send(0), 22);
            due("fail, the other one on duty to " + to, x.fail(0, 0, 20), to == 39 ? -2 : 40);
            due("state", x.told(0, 5), to == 39 ? 2 : 1);
            due("lost", x.count(4), to == 39 ? 1 : 0);
            due("sent", x.count(3), 1);
            due("last end", x.told(0, 7), to == 39 ? -1 : 40);
            due("rest of the other one", x.of(1, 2), to == 39 ? 20 : 70);
        }
        // Of another kind, or without a way to it: lost.
        NightRiders x = Probe.line(3);
        x.rider(0, 7, 0, 4319, 1);
        x.rider(0, 7, 0, 4319, 14);
        x.rider(2, 4, 0, 4319, 1);
        x.rider(0, 3, 0, 4319, 1);
        x.call(0, 0, 2, 0, 100);
        x.send(0);
        due("nobody who may and can", x.fail(0, 0, 20), -2);
        due("it stays there", x.leg(0, 0, 2), 0);
        x.rider(0, 7, 0, 4319, 1);
        due("one that comes later is of no help", x.best(0), -1);
        due("nor is it sent again", x.send(0), -1);
    }

    private static void failUntilNobodyIsLeft() {
        NightRiders x = Probe.line(2);
        x.rest(0);
        for (int r = 0; r < 6; r++) {
            x.rider(0, 3, 0, 4319, 1);
        }
        x.call(0, 0, 1, 0, 2000);
        due("send", x.send(0), 10);
        for (int r = 0; r < 6; r++) {
            due("fail of " + r, x.fail(0, r, 5 * r + 5), r == 5 ? -2 : 5 * r + 15);
            due("on duty", x.duty(0, 0), 5 - r);
            due("legs", x.told(0, 6), r == 5 ? 6 : r + 2);
        }
        for (int r = 0; r < 6; r++) {
            dueLeg("each of them", x, 0, r, r, 0, 0, 5 * r, 5 * r + 5, 1);
            due("hand", x.hand(0, 5 * r), r);
        }
        due("the last end", x.hand(0, 30), 5);
        due("behind it", x.hand(0, 31), -3);
        due("nobody is left", x.next(0, 0), -1);
        due("all is bare", x.bare(0, 0), 0);
    }

    private static void failTwelveLegs() {
        // To and fro over places 0, 1, 2 by riders 0 and 1, each time for another one who could take it to place 3.
        NightRiders x = Probe.line(4);
        x.rest(0);
        x.road(0, 3, 100);
        x.rider(0, 3, 0, 4319, 1);
        x.rider(1, 6, 0, 4319, 1);
        x.rider(2, 12, 0, 4319, 1);
        x.rider(0, 9, 0, 4319, 1);
        x.rider(2, 12, 400, 4319, 1);
        x.rider(0, 9, 1000, 4319, 1);
        x.call(0, 0, 3, 0, 2000);
        due("send", x.send(0), 30);
        due("fail of leg 2", x.fail(0, 2, 20), 140);
        due("fail of leg 5", x.fail(0, 5, 40), 410);
        due("fail of leg 8", x.fail(0, 8, 400), 1100);
        due("twelve legs", x.told(0, 6), 12);
        int[] riders = {0, 1, 2, 1, 0, 3, 0, 1, 4, 1, 0, 5};
        int[] starts = {0, 10, 20, 20, 30, 40, 40, 50, 400, 400, 410, 1000};
        for (int i = 0; i < 12; i++) {
            due("rider of leg " + i, x.leg(0, i, 0), riders[i]);
            due("start of leg " + i, x.leg(0, i, 3), starts[i]);
        }
        due("no leg 12", x.leg(0, 12, 0), -1);
        due("legs of rider 0", x.of(0, 3), 4);
        due("minutes of rider 0", x.of(0, 4), 40);
        due("fail of leg 11", x.fail(0, 11, 1100), -2);
        due("twelve legs still", x.told(0, 6), 12);
        due("its last minute", x.hand(0, 1100), 5);
        due("behind it", x.hand(0, 1101), -3);
    }

    // ---- all of them

    private static void boxesTillTheLastMinute() {
        NightRiders x = Probe.line(2);
        x.rest(600);
        x.rider(0, 3, 0, 4319, 1);
        x.call(0, 0, 1, 4309, 10);
        due("send", x.send(0), 4319);
        due("in its hand at the last minute", x.hand(0, 4319), 0);
        due("not ahead of its start", x.hand(0, 4308), -2);
        due("free behind all minutes", x.of(0, 2), 4919);
        due("on duty still", x.duty(4319, 0), 1);
        x.call(0, 1, 0, 0, 1);
        due("no minute is left", x.best(1), -1);
        due("nor for a next one", x.next(0, 1), -1);
        due("fail at the last minute", x.fail(0, 0, 4319), -2);
    }

    private static void lastCallOfAll() {
        // The 512th call of an object is answered as the first one.
        NightRiders x = Probe.withPlaces(3);
        x.road(0, 1, 10);
        x.road(1, 2, 10);
        x.rider(0, 7, 0, 4319, 1);
        x.call(0, 0, 2, 0, 100);
        for (int made = 7; made < 511; made++) {
            due("rest again", x.rest(made % 601), made == 7 ? 30 : (made - 1) % 601);
        }
        due("the 512th call", x.send(0), 20);
    }
}
