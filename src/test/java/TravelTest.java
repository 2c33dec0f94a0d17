/** Promises 26 to 28: those who ride, the lines and the crews. */
public final class TravelTest {
    public static void main(String[] args) {
        ride();
        rideByBroken();
        rideKinds();
        rideLeast();
        ofLine();
        crews();
        crewsOfMany();
        Check.end("TravelTest");
    }

    /** Promise 26. */
    private static void ride() {
        MaxplusJunction x = Nets.of(0, 20, 40);
        x.arc(0, 1, 10, 0, 0);
        x.arc(1, 2, 10, 2, 2);
        x.horizon(4);
        x.delay(2, 3, 7);
        Check.due("to where one is", 120, x.ride(0, 2, 0));
        Check.due("one run", 20, x.ride(0, 0, 1));
        Check.due("two turns later", 40 + 2 * 60, x.ride(0, 0, 2));
        Check.due("the last turn", 40 + 3 * 60 + 7, x.ride(0, 1, 2));
        Check.due("behind the day", Check.NONE, x.ride(0, 2, 2));
        Check.due("no way", Check.NONE, x.ride(1, 0, 0));
        Check.refused("from 3", Check.INDEX, x, () -> x.ride(3, 0, 0));
        Check.refused("to 3", Check.INDEX, x, () -> x.ride(0, 0, 3));
        Check.refused("from -1", Check.INDEX, x, () -> x.ride(-1, 0, 0));
        Check.refused("to -1", Check.INDEX, x, () -> x.ride(0, 0, -1));
        Check.refused("turn 4", Check.INDEX, x, () -> x.ride(0, 4, 0));
        Check.refused("turn -1", Check.INDEX, x, () -> x.ride(0, -1, 0));
    }

    /** Promise 26: a broken connection is missed by one turn at most. */
    private static void rideByBroken() {
        MaxplusJunction x = Nets.of(0, 15);
        x.arc(0, 1, 10, 0, 2);
        x.live(0, false);
        x.horizon(3);
        x.delay(0, 0, 5);
        Check.due("just caught", 15, x.ride(0, 0, 1));
        x.delay(0, 0, 6);
        Check.due("just missed", 75, x.ride(0, 0, 1));
        x.delay(0, 0, 200);
        Check.due("missed, whatever the next is", 75, x.ride(0, 0, 1));
        x.delay(0, 2, 6);
        Check.due("missed at the end of the day", Check.NONE, x.ride(0, 2, 1));
        Check.due("caught in between", 75, x.ride(0, 1, 1));
        x.delay(1, 0, 250);
        Check.due("it waits by chance", 265, x.ride(0, 0, 1));
        x.arc(0, 1, 10, 2, 2);
        x.live(1, false);
        x.live(0, true);
        x.live(0, false);
        x.delay(1, 0, 0);
        Check.due("by the other one two turns later, missed: none", 75, x.ride(0, 0, 1));
        Check.due("two turns later is behind the day", 75, x.ride(0, 1, 1));
    }

    /** Promise 26: only runs and connections are ridden, and a broken run is none. */
    private static void rideKinds() {
        for (int kind = 0; kind < 4; kind++) {
            MaxplusJunction x = Nets.of(0, 15);
            x.arc(0, 1, 10, 0, kind);
            Check.due("live, kind " + kind, kind % 2 == 0 ? 15 : Check.NONE, x.ride(0, 0, 1));
            x.live(0, false);
            Check.due("broken, kind " + kind, kind == 2 ? 15 : Check.NONE, x.ride(0, 0, 1));
        }
    }

    /** Promise 26: the least REAL of the turns that one can come to, which need not be the first one. */
    private static void rideLeast() {
        MaxplusJunction x = Nets.of(0, 20);
        x.arc(0, 1, 10, 0, 0);
        x.arc(0, 0, 10, 1, 0);
        x.delay(1, 0, 500);
        Check.due("turn 1 is ahead of turn 0", 80, x.ride(0, 0, 1));
        Check.due("from turn 1 on", 80, x.ride(0, 1, 1));
        Check.due("turns that were before are not taken", 140, x.ride(0, 2, 1));
    }

    /** Promise 27. */
    private static void ofLine() {
        MaxplusJunction x = new MaxplusJunction();
        x.departure(5, 0, 1);
        x.departure(0, 10, 50);
        x.departure(5, 20, 1);
        x.arc(0, 1, 10, 0, 0);
        x.arc(1, 2, 8, 0, 0);
        x.horizon(2);
        x.delay(0, 0, 7);
        x.delay(1, 1, 4);
        int[] five = {2, 7 + 7 + 5, 7 + 5 + 2, 7};
        int[] none = {1, 4 + 2, 7 + 4, 7};
        for (int what = 0; what < 4; what++) {
            Check.due("ofLine(5, " + what + ")", five[what], x.ofLine(5, what));
            Check.due("ofLine(0, " + what + ")", none[what], x.ofLine(0, what));
            Check.due("ofLine(3, " + what + ")", 0, x.ofLine(3, what));
        }
        x.delay(2, 1, 33);
        Check.due("the greatest one of line 5", 33, x.ofLine(5, 3));
        Check.refused("line 6", Check.INDEX, x, () -> x.ofLine(6, 4));
        Check.refused("line -1", Check.INDEX, x, () -> x.ofLine(-1, 0));
        Check.refused("what 4", Check.ARGUMENT, x, () -> x.ofLine(0, 4));
        Check.refused("what -1", Check.ARGUMENT, x, () -> x.ofLine(0, -1));
    }

    /** Promise 28. */
    private static void crews() {
        MaxplusJunction x = Nets.of(0, 30);
        Check.due("no runs", 0, x.crews(0));
        x.arc(0, 1, 25, 0, 0);
        Check.due("one run, six turns, none comes back", 6, x.crews(0));
        x.arc(1, 0, 25, 1, 0);
        Check.due("it comes back", 1, x.crews(0));
        Check.due("a rest of 5", 1, x.crews(5));
        Check.due("a rest of 6: to the next turn, and back to that behind it", 12 - 5 - 4, x.crews(6));
        Check.due("a rest of 65", 12 - 5 - 4, x.crews(65));
        Check.due("a rest of 66", 12 - 4 - 3, x.crews(66));
        Check.due("a rest of 100", 12 - 4 - 3, x.crews(100));
        x.live(1, false);
        x.arc(1, 0, 25, 1, 1);
        x.arc(1, 0, 25, 1, 2);
        x.arc(1, 0, 25, 1, 3);
        Check.due("no other kinds, none that is broken", 6, x.crews(0));
        Check.refused("rest -1", Check.ARGUMENT, x, () -> x.crews(-1));
        Check.refused("rest 101", Check.ARGUMENT, x, () -> x.crews(101));
    }

    /** Promise 28: several runs of one departure, and turns that are late. */
    private static void crewsOfMany() {
        MaxplusJunction x = Nets.of(0, 10, 20);
        x.horizon(2);
        x.arc(0, 1, 10, 0, 0);
        x.arc(1, 2, 10, 0, 0);
        x.arc(1, 2, 9, 0, 0);
        Check.due("two leave where one comes", 4, x.crews(0));
        x.arc(0, 1, 10, 0, 0);
        Check.due("two leave where two come", 4, x.crews(0));
        x.arc(2, 2, 5, 1, 0);
        Check.due("one goes round", 4, x.crews(0));
        x.delay(2, 0, 80);
        Check.due("with a rest", 10 - 2 - 2, x.crews(10));
        MaxplusJunction y = Nets.of(10, 20);
        y.horizon(2);
        y.arc(0, 1, 10, 2, 0);
        y.arc(1, 0, 5, 2, 0);
        y.delay(0, 1, 10);
        y.delay(1, 0, 80);
        Check.due("turn 0 begins behind turn 1", 4 - 2, y.crews(0));
        y.delay(0, 1, 21);
        Check.due("by a run, back and by a run again", 4 - 2, y.crews(0));
        Check.due("with a rest only one goes on", 4 - 1, y.crews(7));
    }
}
