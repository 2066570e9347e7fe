import java.util.ArrayList;
import java.util.List;
import java.util.NoSuchElementException;
import java.util.function.Supplier;

/**
 * What the tests of bounds share: answers that are due, and refused calls, behind which all that an object tells is the
 * same as ahead of them. No object is asked more than 512 times, as the document promises nothing behind that.
 */
final class Probe {
    static final int LEAST = Integer.MIN_VALUE;
    static final int MOST = Integer.MAX_VALUE;
    private static final int CALLS_MOST = 512;
    // Some of them come back into the bounds, if they are shifted by, or multiplied with the length of a row.
    private static final int[] WILD = {
        LEAST, LEAST + 1, -4320, -32, -8, -2, -1, 8, 31, 32, 33, 64, 256, 4320, 65536, 1 << 28, 1 << 29, 1 << 30, MOST - 1, MOST,
    };
    private static final int PAGES = 7;

    private final String name;
    private int checked = 0;
    private int wrong = 0;

    /** A call on an object; a boolean answers 1 or 0. */
    interface Call {
        long on(NightRiders x);
    }

    /** A call on an object with one of its arguments left open. */
    interface OpenCall {
        long on(NightRiders x, int v);
    }

    Probe(String name) {
        this.name = name;
    }

    void end() {
        System.out.println(name + ": " + checked + " checks, " + wrong + " wrong");
        if (wrong != 0) {
            System.exit(1);
        }
    }

    void due(String what, long got, long want) {
        checked++;
        if (got != want) {
            wrong++;
            System.out.println(what + ": answered " + got + ", due is " + want);
        }
    }

    private void dueText(String what, String got, String want) {
        checked++;
        if (!got.equals(want)) {
            wrong++;
            System.out.println(what + ": told behind it\n  " + got + "\ndue is\n  " + want);
        }
    }

    static NightRiders withPlaces(int n) {
        NightRiders x = new NightRiders();
        for (int i = 0; i < n; i++) {
            x.place();
        }
        return x;
    }

    /** Places 0 .. n-1, each but the first one 10 minutes behind the one ahead. */
    static NightRiders line(int n) {
        NightRiders x = withPlaces(n);
        for (int i = 1; i < n; i++) {
            x.road(i - 1, i, 10);
        }
        return x;
    }

    /** Three places, two riders and two calls that are not sent; REST is 7. */
    static NightRiders small() {
        NightRiders x = line(3);
        x.rest(7);
        x.rider(0, 7, 5, 100, 3);
        x.rider(2, 6, 0, 4319, 13);
        x.call(0, 0, 2, 10, 50);
        x.call(1, 1, 0, 0, 1);
        return x;
    }

    /**
     * Four places, five riders: call 0 is lost (rider 4 has failed), call 1 was sent last, from hand to hand by riders 0,
     * 1 and 2, call 2 can be sent, call 3 can't be.
     */
    static NightRiders busy() {
        NightRiders x = line(4);
        x.rest(5);
        x.rider(0, 3, 0, 4319, 1);
        x.rider(1, 6, 0, 4319, 1);
        x.rider(2, 12, 0, 4319, 1);
        x.rider(3, 15, 1000, 4319, 3);
        x.rider(0, 15, 0, 500, 8);
        x.call(3, 0, 2, 0, 100);
        x.call(0, 0, 3, 0, 29);
        x.call(1, 3, 0, 1000, 2000);
        x.call(3, 0, 3, 0, 1);
        x.send(0);
        x.fail(0, 0, 12);
        x.send(1);
        return x;
    }

    /** Eight places, six riders and 40 calls: there can be no more. */
    static NightRiders full() {
        NightRiders x = line(8);
        for (int r = 0; r < 6; r++) {
            x.rider(r, 255, 5 * r, 4319 - r, 15);
        }
        for (int c = 0; c < 40; c++) {
            x.call(c % 4, c % 8, (c + 3) % 8, 10 * c, 40);
        }
        x.send(0);
        x.send(9);
        return x;
    }

    /** A call on a new object; the object behind it. */
    NightRiders taken(String what, Supplier<NightRiders> scene, Call call, long want) {
        NightRiders x = scene.get();
        due(what, call.on(x), want);
        return x;
    }

    /** A call that is refused: whatever the object tells then, and goes on with, is as if it had not been. */
    void refused(String what, Supplier<NightRiders> scene, Call call, long want) {
        for (int page = 0; page < PAGES; page++) {
            NightRiders x = scene.get();
            due(what, call.on(x), want);
            dueText(what + ", page " + page, told(x, page), told(scene.get(), page));
        }
    }

    /** An argument that is taken from least to most; the ones beside these and wild ones are refused. */
    void bounds(String what, Supplier<NightRiders> scene, int least, int most, OpenCall call, long atLeast, long atMost) {
        taken(what + " " + least, scene, x -> call.on(x, least), atLeast);
        taken(what + " " + most, scene, x -> call.on(x, most), atMost);
        outside(what, scene, least, most, call, NightRiders.NONE);
    }

    void outside(String what, Supplier<NightRiders> scene, int least, int most, OpenCall call, long want) {
        List<Integer> tried = new ArrayList<>();
        tried.add(least - 1);
        tried.add(most + 1);
        for (int v : WILD) {
            if ((v < least || v > most) && !tried.contains(v)) {
                tried.add(v);
            }
        }
        for (int v : tried) {
            refused(what + " " + v, scene, x -> call.on(x, v), want);
        }
    }

    /** What of() answers; it throws nothing but the one exception that the document names: that is LEAST here. */
    static long of(NightRiders x, int rider, int what) {
        try {
            return x.of(rider, what);
        } catch (NoSuchElementException e) {
            return e.getClass() == NoSuchElementException.class ? LEAST : LEAST + 1L;
        }
    }

    /** A part of what an object tells: so small that the calls stay below those that the document promises. */
    private String told(NightRiders x, int page) {
        List<Long> rows = new ArrayList<>();
        switch (page) {
            case 0:
                counts(x, rows);
                break;
            case 1:
                calls(x, rows);
                break;
            case 2:
                legsAndHands(x, rows);
                break;
            case 3:
                ways(x, rows);
                break;
            case 4:
                duties(x, rows);
                break;
            case 5:
                sendsOn(x, rows);
                break;
            default:
                failsOn(x, rows);
                break;
        }
        // A scene makes up to 100 calls, and up to 50 ask how many there are.
        due("calls that page " + page + " makes stay few", rows.size() <= CALLS_MOST - 150 ? 1 : 0, 1);
        return rows.toString();
    }

    private static void counts(NightRiders x, List<Long> rows) {
        for (int what = -1; what <= 6; what++) {
            rows.add((long) x.count(what));
        }
        int resting = x.rest(0);
        rows.add((long) resting);
        rows.add((long) x.rest(resting));
        riders(x, rows);
    }

    private static void riders(NightRiders x, List<Long> rows) {
        int riders = x.count(1);
        for (int r = 0; r <= riders; r++) {
            for (int what = 0; what <= 6; what++) {
                rows.add(of(x, r, what));
            }
        }
    }

    private static void calls(NightRiders x, List<Long> rows) {
        int calls = x.count(2);
        for (int c = 0; c <= calls; c++) {
            for (int what = 0; what <= 7; what++) {
                rows.add((long) x.told(c, what));
            }
        }
    }

    private static void legsAndHands(NightRiders x, List<Long> rows) {
        int calls = x.count(2);
        for (int c = 0; c < calls; c++) {
            int legs = x.told(c, 6);
            for (int i = 0; i <= legs; i++) {
                for (int what = 0; what <= 5; what++) {
                    rows.add((long) x.leg(c, i, what));
                }
                if (i < legs) {
                    rows.add((long) x.hand(c, x.leg(c, i, 3)));
                    rows.add((long) x.hand(c, x.leg(c, i, 4) + 1));
                }
            }
        }
    }

    private static void ways(NightRiders x, List<Long> rows) {
        int places = x.count(0);
        int riders = x.count(1);
        for (int r = 0; r < riders; r++) {
            // One of the way and the way back, or there would be too many calls for six riders and eight places.
            for (int from = 0; from < places; from++) {
                for (int to = from; to < places; to++) {
                    rows.add((long) x.way(r, from, to));
                }
            }
        }
    }

    private static void duties(NightRiders x, List<Long> rows) {
        for (int kind = 0; kind <= 3; kind++) {
            for (int minute : new int[] {0, 4, 5, 9, 10, 99, 100, 101, 500, 501, 4318, 4319}) {
                rows.add((long) x.duty(minute, kind));
            }
            rows.add((long) x.bare(0, kind));
            rows.add((long) x.bare(101, kind));
            for (int place = 0; place <= 7; place++) {
                rows.add((long) x.next(kind, place));
            }
        }
        int calls = x.count(2);
        for (int c = 0; c < calls; c++) {
            rows.add((long) x.best(c));
        }
    }

    private static void sendsOn(NightRiders x, List<Long> rows) {
        rows.add((long) x.place());
        rows.add((long) x.rider(0, 1, 0, 9, 1));
        rows.add((long) x.call(0, 0, 1, 0, 1));
        int calls = x.count(2);
        for (int c = 0; c < calls; c++) {
            rows.add((long) x.send(c));
            rows.add((long) x.told(c, 5));
            rows.add((long) x.told(c, 6));
        }
        riders(x, rows);
    }

    private static void failsOn(NightRiders x, List<Long> rows) {
        int calls = x.count(2);
        for (int c = 0; c < calls; c++) {
            int last = x.told(c, 6) - 1;
            if (last >= 0) {
                rows.add((long) x.fail(c, last, x.leg(c, last, 4)));
                rows.add((long) x.told(c, 5));
                rows.add((long) x.told(c, 6));
            }
        }
        riders(x, rows);
    }
}
