/**
 * "5. Those who ride": a method for each sentence of this part of the document's "Description"; of the first
 * one several.
 */
public final class Part5Test {
    public static void main(String[] args) {
        whereItBegins();
        byArcsOfTwoKinds();
        byLiveArcs();
        byBrokenConnections();
        whateverItsRealIs();
        backToAnEarlierTime();
        turnsOfTheDay();
        arrival();
        Check.end("Part5Test");
    }

    /** OFFSETS of 0 and 30, and one ARC of 20 from the first one to the second one. */
    private static MaxplusJunction two(int shift, int kind) {
        MaxplusJunction x = Nets.of(0, 30);
        x.arc(0, 1, 20, shift, kind);
        return x;
    }

    private static void dueRides(String what, MaxplusJunction x, int from, int to, int... want) {
        for (int turn = 0; turn < want.length; turn++) {
            Check.due(what + ", turn " + turn, want[turn], x.ride(from, turn, to));
        }
    }

    /**
     * "A RIDE begins at a TURN of a DEPARTURE (that one can come to, too), and goes by ARCS of the KINDS 0 and 2:
     * by one that is LIVE from the TURN k of the first one to the TURN k + SHIFT of the second one; by a
     * CONNECTION that is BROKEN to the TURN k + SHIFT, if REAL of that is no less than REAL of the TURN k and
     * TIME together, otherwise to the TURN k + SHIFT + 1, whatever its REAL is." First: where it begins.
     */
    private static void whereItBegins() {
        MaxplusJunction x = two(0, Nets.RUN);
        x.delay(0, 2, 7);
        dueRides("that one can come to, too", x, 0, 0, 0, 60, 127, 180, 240, 300);
        dueRides("of the second one", x, 1, 1, 30, 90, 150, 210, 270, 330);
        dueRides("on by an arc", x, 0, 1, 30, 90, 150, 210, 270, 330);
        dueRides("not against an arc", x, 1, 0, -1, -1, -1, -1, -1, -1);
    }

    /** "and goes by ARCS of the KINDS 0 and 2": LIVE or BROKEN. */
    private static void byArcsOfTwoKinds() {
        int[] live = {90, -1, 90, -1};
        int[] broken = {-1, -1, 90, -1};
        for (int kind = 0; kind < 4; kind++) {
            MaxplusJunction x = two(0, kind);
            Check.due("by a live one of kind " + kind, live[kind], x.ride(0, 1, 1));
            x.live(0, false);
            Check.due("by a broken one of kind " + kind, broken[kind], x.ride(0, 1, 1));
        }
    }

    /** "by one that is LIVE from the TURN k of the first one to the TURN k + SHIFT of the second one" */
    private static void byLiveArcs() {
        for (int kind : new int[] {Nets.RUN, Nets.CONNECTION}) {
            dueRides("shift 0", two(0, kind), 0, 1, 30, 90, 150, 210, 270, 330);
            dueRides("shift 1", two(1, kind), 0, 1, 90, 150, 210, 270, 330, -1);
            dueRides("shift 2", two(2, kind), 0, 1, 150, 210, 270, 330, -1, -1);
            MaxplusJunction x = two(1, kind);
            x.delay(0, 2, 100);
            dueRides("it waits", x, 0, 1, 90, 150, 240, 270, 330, -1);
        }
        MaxplusJunction y = Nets.of(0, 10, 20, 30);
        y.arc(0, 1, 10, 0, Nets.RUN);
        y.arc(2, 3, 10, 1, Nets.RUN);
        y.arc(1, 2, 10, 1, Nets.CONNECTION);
        dueRides("by three", y, 0, 3, 150, 210, 270, 330, -1, -1);
    }

    /**
     * "by a CONNECTION that is BROKEN to the TURN k + SHIFT, if REAL of that is no less than REAL of the TURN
     * k and TIME together"
     */
    private static void byBrokenConnections() {
        for (int shift = 0; shift <= 2; shift++) {
            MaxplusJunction x = two(shift, Nets.CONNECTION);
            x.live(0, false);
            x.horizon(8);
            int real = 30 + 60 * (1 + shift);
            x.delay(0, 1, 10 + 60 * shift);
            Check.due("just in time", real, x.ride(0, 1, 1));
            x.delay(0, 1, 9 + 60 * shift);
            Check.due("a minute before", real, x.ride(0, 1, 1));
            x.delay(0, 1, 11 + 60 * shift);
            Check.due("a minute too late", real + 60, x.ride(0, 1, 1));
            x.delay(1, 1 + shift, 1);
            Check.due("it is late by a minute, too", real + 1, x.ride(0, 1, 1));
        }
    }

    /** "otherwise to the TURN k + SHIFT + 1, whatever its REAL is": also if that one is gone already. */
    private static void whateverItsRealIs() {
        MaxplusJunction x = two(0, Nets.CONNECTION);
        x.live(0, false);
        x.delay(0, 1, 500);
        Check.due("the next one is gone by then", 150, x.ride(0, 1, 1));
        x.delay(1, 2, 33);
        Check.due("the same, late", 183, x.ride(0, 1, 1));
        x.delay(0, 1, 0);
        Check.due("in time", 90, x.ride(0, 1, 1));
    }

    /** The same: by a CONNECTION from a DEPARTURE to itself, and then ARRIVAL is ahead of where one began. */
    private static void backToAnEarlierTime() {
        MaxplusJunction x = Nets.of(0);
        x.arc(0, 0, 1, 1, Nets.CONNECTION);
        x.live(0, false);
        x.delay(0, 0, 500);
        Check.due("turn 1 is gone, so turn 2", 120, x.ride(0, 0, 0));
        x.horizon(2);
        Check.due("there is no turn 2", 500, x.ride(0, 0, 0));
    }

    /** "One can only take TURNS of the DAY." */
    private static void turnsOfTheDay() {
        MaxplusJunction x = two(1, Nets.RUN);
        Check.due("turn 5", 330, x.ride(0, 4, 1));
        Check.due("no turn 6", -1, x.ride(0, 5, 1));
        x.horizon(7);
        Check.due("turn 6", 390, x.ride(0, 5, 1));
        x.horizon(1);
        Check.due("turn 0 alone", -1, x.ride(0, 0, 1));
        MaxplusJunction y = two(0, Nets.CONNECTION);
        y.live(0, false);
        y.horizon(2);
        y.delay(0, 1, 11);
        Check.due("no turn 2, though turn 1 is gone", -1, y.ride(0, 1, 1));
        y.delay(0, 1, 10);
        Check.due("turn 1", 90, y.ride(0, 1, 1));
        MaxplusJunction z = two(2, Nets.CONNECTION);
        z.live(0, false);
        z.horizon(2);
        Check.due("no turn 2 by a shift of 2", -1, z.ride(0, 0, 1));
        for (int turn : new int[] {-1, 2}) {
            Check.refused("to begin at turn " + turn, Check.INDEX, y, () -> y.ride(0, turn, 1));
        }
    }

    /** "ARRIVAL at a DEPARTURE is the least REAL of its TURNS that one can come to; NONE without one." */
    private static void arrival() {
        MaxplusJunction x = Nets.of(0, 5, 30, 0);
        x.arc(0, 2, 9, 2, Nets.RUN);
        x.arc(0, 1, 5, 0, Nets.RUN);
        x.arc(1, 2, 20, 0, Nets.RUN);
        Check.due("the sooner one of two", 30, x.ride(0, 0, 2));
        x.delay(2, 0, 200);
        Check.due("turn 2, as turn 0 is later", 150, x.ride(0, 0, 2));
        x.delay(2, 2, 300);
        Check.due("turn 0, as turn 2 is later yet", 230, x.ride(0, 0, 2));
        x.live(2, false);
        Check.due("turn 2 alone", 450, x.ride(0, 0, 2));
        x.live(0, false);
        Check.due("none", -1, x.ride(0, 0, 2));
        Check.due("none to another one", -1, x.ride(0, 0, 3));
        Check.due("none from there", -1, x.ride(3, 0, 0));
    }
}
