/**
 * Sentences of the document that the other tests only touch: whose way a leg takes, what may change between a call that
 * is sent and a leg of it that fails, which chain is the best from where a box lies, that questions change nothing.
 */
public final class SentenceTests {
    private static final Probe probe = new Probe("SentenceTests");

    public static void main(String[] args) {
        objectsKnowNothingOfOneAnother();
        questionsChangeNothing();
        areasBindEachLeg();
        legsTakeTheirOwnRidersWay();
        ridersGoAheadTheirOwnWay();
        sentLegsStayWhenRoadsChange();
        fromThereOnByTheRoadsThatAreThen();
        fromThereOnWithTheRestThatIsThen();
        fromThereOnByRidersThatCameLater();
        fromThereOnEarliest();
        fromThereOnOfFewestLegs();
        fromThereOnByTheLessRider();
        fromThereOnOverTheLessPlace();
        goneLegsOfOneThatRodeAhead();
        goneLegsAreNoneThatWereRidden();
        handsBehindTwoFailures();
        lostCallsHoldNobodyBack();
        sentLastOfAllThoughItIsLost();
        lastEndIsToldAlikeEverywhere();
        probe.end();
    }

    private static void due(String what, long got, long want) {
        probe.due(what, got, want);
    }

    /** What of() tells of a rider: at, free, legs and minutes with boxes. */
    private static void dueRider(String what, NightRiders x, int rider, int... want) {
        for (int i = 0; i < want.length; i++) {
            due(what + ", rider " + rider + ", what " + (i + 1), Probe.of(x, rider, i + 1), want[i]);
        }
    }

    private static void dueLeg(String what, NightRiders x, int call, int i, int... want) {
        for (int asked = 0; asked < want.length; asked++) {
            due(what + ", leg " + i + ", what " + asked, x.leg(call, i, asked), want[asked]);
        }
    }

    // ---- what it is, promise 1

    private static void objectsKnowNothingOfOneAnother() {
        NightRiders x = Probe.small();
        NightRiders y = Probe.busy();
        NightRiders z = Probe.small();
        due("best of the one", x.best(0), 30);
        due("best of the other", y.best(2), 1030);
        due("send of the one", x.send(0), 30);
        due("fail of the other, of what was sent last there", y.fail(1, 2, 25), 1020);
        due("fail of a third, where nothing was sent", z.fail(0, 0, 20), -1);
        due("the one loses it", x.fail(0, 0, 10), -2);
        due("the other one does not", y.count(4), 1);
        due("the third one has both its riders", z.duty(50, 0), 2);
        due("rest of the one", x.rest(1), 7);
        due("rest of the other", y.rest(1), 5);
        due("rest of the third", z.rest(1), 7);
    }

    private static void questionsChangeNothing() {
        for (int asked = 0; asked <= 12; asked++) {
            int what = asked;
            // Not refused, but with nothing changed behind it all the same.
            probe.refused("question " + what, Probe::busy, x -> question(x, what), question(Probe.busy(), what));
        }
    }

    private static long question(NightRiders x, int what) {
        switch (what) {
            case 0:
                return x.count(3);
            case 1:
                return x.way(0, 0, 1);
            case 2:
                return Probe.of(x, 0, 2);
            case 3:
                return x.duty(1000, 1);
            case 4:
                return x.bare(0, 0);
            case 5:
                return x.best(2);
            case 6:
                return x.best(3);
            case 7:
                return x.told(1, 7);
            case 8:
                return x.leg(1, 2, 4);
            case 9:
                return x.hand(1, 20);
            case 10:
                return x.hand(0, 20);
            case 11:
                return x.next(1, 0);
            default:
                return x.rest(x.rest(0));
        }
    }

    // ---- term 1: ways

    private static void areasBindEachLeg() {
        NightRiders x = Probe.line(3);
        x.rider(0, 3, 0, 4319, 1);
        x.rider(2, 4, 0, 4319, 1);
        x.call(0, 0, 2, 0, 100);
        due("the other one knows its end alone", x.best(0), -1);
        x.rider(2, 5, 0, 4319, 1);
        due("one knows both ends, but not the place between", x.best(0), -1);
        x.rider(2, 6, 0, 4319, 1);
        due("one knows the place between", x.send(0), 20);
        dueLeg("by it", x, 0, 1, 3, 1, 2, 10, 20, 0);
    }

    /** From 0 to 1 by a road of 50 minutes, or over 2 by two of 10. */
    private static NightRiders longAndShort() {
        NightRiders x = Probe.withPlaces(3);
        x.road(0, 2, 10);
        x.road(2, 1, 10);
        x.road(0, 1, 50);
        return x;
    }

    private static void legsTakeTheirOwnRidersWay() {
        for (int from = 29; from <= 31; from++) {
            NightRiders x = longAndShort();
            x.rider(0, 3, 0, 4319, 1);
            x.rider(0, 7, from, 4319, 1);
            x.call(0, 0, 1, 0, 100);
            due("the long road, or the short ones from " + from + " on", x.send(0), from < 30 ? 49 : 50);
            dueLeg("by", x, 0, 0, from < 30 ? 1 : 0, 0, 1, from < 30 ? 29 : 0);
        }
    }

    private static void ridersGoAheadTheirOwnWay() {
        NightRiders x = longAndShort();
        x.rider(1, 3, 0, 4319, 1);
        x.call(0, 0, 2, 0, 1000);
        x.call(0, 0, 1, 0, 1000);
        due("it does not know where that goes to", x.best(0), -1);
        due("by the long road there and back", x.best(1), 100);
        due("next, by the long road", x.next(0, 0), 0);
        x.rider(1, 7, 0, 4319, 1);
        due("by the short roads there, and half of them back", x.best(0), 30);
        due("by the short roads there and back", x.best(1), 40);
        due("next, by the short roads", x.next(0, 0), 1);
    }

    // ---- term 2: what changes between send and fail

    private static void sentLegsStayWhenRoadsChange() {
        NightRiders x = Probe.busy();
        x.road(0, 1, 600);
        x.road(1, 2, 1);
        x.road(2, 3, 0);
        x.rest(600);
        for (int i = 0; i < 3; i++) {
            dueLeg("as it was sent", x, 1, i, i, i, i + 1, 10 * i, 10 * i + 10, 0);
            dueRider("as it was sent", x, i, i + 1, 15 + 10 * i, 1, 10);
        }
        due("its last end", x.told(1, 7), 30);
        due("in hand till then", x.hand(1, 30), 2);
        due("not behind it", x.hand(1, 31), -3);
        due("fail behind the end that was", x.fail(1, 2, 31), -1);
        due("fail at the end that was: there is no road now", x.fail(1, 2, 30), -2);
        dueRider("its minutes", x, 2, 2, -1, 1, 10);
    }

    /**
     * A line of four places, a call from 0 to 3, sent: rider 0 takes it to 1, where it was at 10, and rider 1 on from there
     * to 3, at 30. Rider 1 will fail; who goes on comes from minute 90 on.
     */
    private static NightRiders sentOverOne() {
        NightRiders x = Probe.line(4);
        x.rest(0);
        x.rider(0, 3, 0, 4319, 1);
        x.rider(1, 14, 0, 4319, 1);
        x.call(0, 0, 3, 0, 2000);
        due("send", x.send(0), 30);
        dueLeg("the one that will fail", x, 0, 1, 1, 1, 3, 10, 30, 0);
        return x;
    }

    private static void fromThereOnByTheRoadsThatAreThen() {
        // A road that is laid ahead of the failure, and the last end then: rider 2 goes from 2 to 1, and on to 3.
        int[][] laid = {{0, 2, 5, 120}, {1, 3, 15, 115}, {1, 3, 20, 120}, {1, 3, 21, 120}, {1, 2, 4, 108}, {2, 3, 3, 113}, {1, 2, 0, -2}};
        for (int[] road : laid) {
            NightRiders x = sentOverOne();
            x.rider(2, 14, 90, 4319, 1);
            x.road(road[0], road[1], road[2]);
            due("fail, with a road of " + road[2] + " from " + road[0] + " to " + road[1], x.fail(0, 1, 15), road[3]);
        }
    }

    private static void fromThereOnWithTheRestThatIsThen() {
        for (int resting : new int[] {0, 5, 600}) {
            NightRiders x = sentOverOne();
            x.rider(1, 6, 90, 4319, 1);
            x.rider(2, 12, 101, 4319, 1);
            x.rest(resting);
            due("fail", x.fail(0, 1, 15), 111);
            dueRider("ahead of the failure, as it was", x, 0, 1, 10, 1, 10);
            dueRider("behind the hand-over and its rest", x, 2, 2, 101 + resting, 1, 10);
            dueRider("behind the last end and its rest", x, 3, 3, 111 + resting, 1, 10);
        }
    }

    private static void fromThereOnByRidersThatCameLater() {
        for (int kinds : new int[] {1, 9, 14}) {
            NightRiders x = sentOverOne();
            due("made behind the send", x.rider(1, 14, 90, 4319, kinds), 2);
            due("fail", x.fail(0, 1, 15), kinds == 14 ? -2 : 110);
            due("lost", x.count(4), kinds == 14 ? 1 : 0);
        }
        // A place and its roads that came later may be in a new rider's area.
        NightRiders x = sentOverOne();
        due("place", x.place(), 4);
        x.road(1, 4, 1);
        x.road(4, 3, 1);
        x.rider(4, 26, 90, 4319, 1);
        due("fail, and on over the new place", x.fail(0, 1, 30), 93);
        dueLeg("by the new rider", x, 0, 2, 2, 1, 3, 91, 93, 0);
    }

    // ---- term 2: the best from there on

    private static void fromThereOnEarliest() {
        for (int from = 99; from <= 101; from++) {
            NightRiders x = sentOverOne();
            x.rider(1, 14, from, 4319, 1);
            x.rider(1, 14, 100, 4319, 1);
            due("fail", x.fail(0, 1, 15), from <= 100 ? from + 20 : 120);
            due("the one that comes soonest, or the less", x.leg(0, 2, 0), from <= 100 ? 2 : 3);
        }
    }

    private static void fromThereOnOfFewestLegs() {
        NightRiders x = sentOverOne();
        x.rider(1, 6, 100, 4319, 1);
        x.rider(2, 12, 100, 4319, 1);
        x.rider(1, 14, 100, 4319, 1);
        due("fail", x.fail(0, 1, 15), 120);
        due("one leg more, and not two", x.told(0, 6), 3);
        dueLeg("by the one alone", x, 0, 2, 4, 1, 3, 100, 120, 0);
    }

    /** As above, and from 1 to 3 as soon over place 4. */
    private static NightRiders sentOverOneWithTwoWays() {
        NightRiders x = sentOverOne();
        x.place();
        x.road(1, 4, 10);
        x.road(4, 3, 10);
        return x;
    }

    private static void fromThereOnByTheLessRider() {
        NightRiders x = sentOverOneWithTwoWays();
        x.rider(1, 18, 100, 4319, 1);
        x.rider(1, 6, 100, 4319, 1);
        x.rider(2, 12, 100, 4319, 1);
        x.rider(4, 24, 100, 4319, 1);
        due("fail", x.fail(0, 1, 15), 120);
        dueLeg("the less rider, not the less place", x, 0, 2, 2, 1, 4, 100, 110, 0);
        dueLeg("and then the only one", x, 0, 3, 5, 4, 3, 110, 120, 0);
    }

    private static void fromThereOnOverTheLessPlace() {
        NightRiders x = sentOverOneWithTwoWays();
        x.rider(1, 22, 100, 4319, 1);
        x.rider(4, 24, 100, 4319, 1);
        x.rider(2, 12, 100, 4319, 1);
        due("fail", x.fail(0, 1, 15), 120);
        dueLeg("over the less place", x, 0, 2, 2, 1, 2, 100, 110, 0);
        dueLeg("not by the less second rider", x, 0, 3, 4, 2, 3, 110, 120, 0);
    }

    // ---- term 2: legs that are gone

    private static void goneLegsOfOneThatRodeAhead() {
        for (int to = 50; to <= 60; to += 10) {
            // Rider 0 goes from 1 over 2 and 3 to 4; rider 1 from 1 over 5 to 4, and rider 2 from 1 over 6 to 3.
            NightRiders x = Probe.withPlaces(7);
            int[][] roads = {{0, 1, 10}, {1, 2, 10}, {2, 3, 10}, {3, 4, 10}, {1, 5, 6}, {5, 4, 6}, {1, 6, 1}, {6, 3, 1}};
            for (int[] road : roads) {
                x.road(road[0], road[1], road[2]);
            }
            x.rest(0);
            x.rider(0, 31, 0, to, 1);
            x.rider(1, 50, 0, 4319, 1);
            x.rider(1, 74, 0, 4319, 1);
            x.call(0, 0, 4, 0, 2000);
            due("send", x.send(0), 22);
            due("by riders 0 and 1", x.leg(0, 1, 0), 1);
            due("fail of rider 1", x.fail(0, 1, 22), 40);
            dueLeg("on by rider 2", x, 0, 2, 2, 1, 3, 22, 24, 0);
            dueLeg("and by rider 0, that rode ahead", x, 0, 3, 0, 3, 4, 30, 40, 0);
            dueRider("with two legs", x, 0, 4, 40, 2, 20);
            // It could go on by itself from 23 to 53, if it were on duty so long.
            due("fail of rider 2", x.fail(0, 2, 23), to == 50 ? -2 : 53);
            if (to == 50) {
                dueRider("as it was behind its first leg", x, 0, 1, 10, 1, 10);
            } else {
                dueLeg("alone", x, 0, 3, 0, 1, 4, 23, 53, 0);
                dueRider("with two legs again", x, 0, 4, 53, 2, 40);
            }
        }
    }

    private static void goneLegsAreNoneThatWereRidden() {
        NightRiders x = Probe.busy();
        due("next, the one without a leg", x.next(0, 1), 3);
        due("fail of the first", x.fail(1, 0, 10), 1060);
        due("next, the less of those whose legs are gone", x.next(0, 2), 2);
        due("next, the only one that knows it", x.next(0, 1), 1);
        due("next, the one that went on alone", x.next(0, 0), 3);
    }

    // ---- promises 16 and 17

    private static void handsBehindTwoFailures() {
        NightRiders x = sentOverOne();
        x.rider(1, 14, 50, 4319, 1);
        x.rider(1, 14, 100, 4319, 1);
        due("fail of rider 1", x.fail(0, 1, 20), 70);
        due("fail of rider 2", x.fail(0, 2, 50), 120);
        int[][] want = {{0, 0}, {9, 0}, {10, 1}, {20, 1}, {21, 1}, {49, 1}, {50, 2}, {99, 2}, {100, 3}, {120, 3}, {121, -3}};
        for (int[] row : want) {
            due("hand at " + row[0], x.hand(0, row[0]), row[1]);
        }
        due("fail of rider 3", x.fail(0, 3, 110), -2);
        int[][] then = {{99, 2}, {100, 3}, {110, 3}, {111, -3}, {120, -3}};
        for (int[] row : then) {
            due("hand of the lost one at " + row[0], x.hand(0, row[0]), row[1]);
        }
    }

    private static void lostCallsHoldNobodyBack() {
        NightRiders x = sentOverOne();
        x.call(0, 1, 0, 0, 100);
        due("lost", x.fail(0, 1, 15), -2);
        due("who rode ahead of that rides for others", x.send(1), 20);
        dueLeg("from when it was free on", x, 1, 0, 0, 1, 0, 10, 20, 0);
        due("the lost one lies there", x.told(0, 5), 2);
        due("its legs", x.told(0, 6), 2);
    }

    private static void sentLastOfAllThoughItIsLost() {
        NightRiders x = Probe.line(2);
        x.rest(0);
        for (int n = 0; n < 3; n++) {
            x.rider(0, 3, 0, 4319, 1 << n);
            x.call(n, 0, 1, 0, 100);
        }
        due("send", x.send(1), 10);
        due("send of another", x.send(0), 10);
        due("it is lost", x.fail(0, 0, 5), -2);
        due("still it is the last one", x.fail(1, 0, 5), -1);
        due("a third one that is sent", x.send(2), 10);
        due("now that is the last one", x.fail(2, 0, 5), -2);
        due("lost", x.count(4), 2);
        due("sent", x.count(3), 3);
    }

    private static void lastEndIsToldAlikeEverywhere() {
        NightRiders x = Probe.full();
        int sent = 2;
        for (int c = 39; c >= 1; c--) {
            int end = x.best(c);
            due("send answers as best did, call " + c, x.send(c), end);
            if (end < 0) {
                continue;
            }
            sent++;
            int last = x.told(c, 6) - 1;
            due("told, call " + c, x.told(c, 7), end);
            due("end of the last leg, call " + c, x.leg(c, last, 4), end);
            due("who brings it, call " + c, x.hand(c, end), x.leg(c, last, 0));
            due("behind it, call " + c, x.hand(c, end + 1), -3);
        }
        due("sent", x.count(3), sent);
        due("all of them", sent, 40);
    }
}
