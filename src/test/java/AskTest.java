/** Promises 16 to 22: what is asked of the net. */
public final class AskTest {
    public static void main(String[] args) {
        ofDeparture();
        minutes();
        ofArc();
        ringsOfNone();
        ringsOfFractions();
        ringsOfMany();
        ringsThatMeet();
        holds();
        healing();
        feels();
        free();
        power();
        Check.end("AskTest");
    }

    /** Promise 16. */
    private static void ofDeparture() {
        MaxplusJunction x = new MaxplusJunction();
        x.departure(4, 30, 9);
        x.departure(1, 40, 8);
        x.departure(1, 50, 7);
        x.arc(0, 1, 10, 0, 0);
        x.arc(0, 1, 11, 0, 1);
        x.arc(1, 0, 12, 1, 1);
        x.arc(1, 1, 5, 1, 3);
        x.arc(2, 1, 5, 2, 3);
        x.live(1, false);
        x.delay(2, 0, 6);
        int[][] want = {{4, 30, 9, 1, 1, 1, 0, 0}, {1, 40, 8, 3, 2, 1, 0, 0}, {1, 50, 7, 0, 1, 0, 6, 6}};
        for (int departure = 0; departure < 3; departure++) {
            for (int what = 0; what < 8; what++) {
                Check.due("ofDeparture(" + departure + ", " + what + ")",
                        want[departure][what], x.ofDeparture(departure, what));
            }
        }
        Check.refused("no departure 3", Check.INDEX, x, () -> x.ofDeparture(3, 8));
        Check.refused("no departure -1", Check.INDEX, x, () -> x.ofDeparture(-1, 0));
        Check.refused("what 8", Check.ARGUMENT, x, () -> x.ofDeparture(0, 8));
        Check.refused("what -1", Check.ARGUMENT, x, () -> x.ofDeparture(0, -1));
    }

    /** Promise 16: MINUTES go to the ROOT, LATE stays where it is. */
    private static void minutes() {
        MaxplusJunction x = Nets.of(0, 10, 20);
        x.arc(0, 1, 10, 0, 0);
        x.arc(1, 2, 8, 0, 0);
        x.horizon(2);
        x.delay(0, 0, 7);
        x.delay(1, 1, 4);
        Check.due("minutes of 0", 7 + 7 + 5, x.ofDeparture(0, 6));
        Check.due("minutes of 1", 4 + 2, x.ofDeparture(1, 6));
        Check.due("minutes of 2", 0, x.ofDeparture(2, 6));
        Check.due("late of 0", 7, x.ofDeparture(0, 7));
        Check.due("late of 1", 7 + 4, x.ofDeparture(1, 7));
        Check.due("late of 2", 5 + 2, x.ofDeparture(2, 7));
    }

    /** Promise 17; NetTest asks the rest of it. */
    private static void ofArc() {
        MaxplusJunction x = Nets.of(10, 50);
        x.arc(1, 0, 25, 2, 2);
        x.arc(0, 1, 41, 0, 1);
        x.riders(0, 12, true);
        int[][] want = {{1, 0, 25, 2, 2, 12, 1, 10 + 120 - 50 - 25, 1, -1}, {0, 1, 41, 0, 1, 0, 1, -1, 0, -1}};
        for (int arc = 0; arc < 2; arc++) {
            for (int what = 0; what < 10; what++) {
                Check.due("ofArc(" + arc + ", " + what + ")", want[arc][what], x.ofArc(arc, what));
            }
        }
        x.live(0, false);
        x.period(70);
        Check.due("slack of one that is broken", 75, x.ofArc(0, 7));
        Check.due("broken", 0, x.ofArc(0, 6));
        Check.refused("no arc 2", Check.INDEX, x, () -> x.ofArc(2, 10));
        Check.refused("no arc -1", Check.INDEX, x, () -> x.ofArc(-1, 0));
        Check.refused("what 10", Check.ARGUMENT, x, () -> x.ofArc(0, 10));
        Check.refused("what -1", Check.ARGUMENT, x, () -> x.ofArc(0, -1));
    }

    private static void dueRings(String what, MaxplusJunction x, int... want) {
        for (int asked = 0; asked < want.length; asked++) {
            Check.due(what + ": rings(" + asked + ")", want[asked], x.rings(asked));
        }
    }

    /** Promise 18 without rings. */
    private static void ringsOfNone() {
        MaxplusJunction x = Nets.of(0, 30);
        dueRings("no arcs", x, 0, 1, 60, 1, 1, 0, 0);
        x.arc(0, 1, 31, 0, 0);
        dueRings("no ring", x, 0, 1, 60, 1, 0, 0, 0);
        Check.refused("rings(7)", Check.ARGUMENT, x, () -> x.rings(7));
        Check.refused("rings(-1)", Check.ARGUMENT, x, () -> x.rings(-1));
    }

    /** Promise 18: fractions, shortened, and what is rounded. */
    private static void ringsOfFractions() {
        MaxplusJunction x = Nets.of(0, 0);
        x.arc(0, 1, 35, 2, 0);
        x.arc(1, 0, 85, 2, 0);
        dueRings("120 of 4 are 30", x, 30, 1, 30, 1, 1, 3, 30);
        x.arc(1, 0, 86, 2, 0);
        dueRings("121 of 4", x, 121, 4, 29, 1, 1, 3, 31);
        x.period(30);
        dueRings("121 of 4 by 30", x, 121, 4, -1, 0, 0, 3, 31);
        x.period(31);
        dueRings("121 of 4 by 31", x, 121, 4, 0, 1, 0, 3, 31);
        x.arc(0, 0, 31, 1, 0);
        dueRings("31 by 31", x, 31, 1, 0, 0, 0, 1, 31);
        x.arc(1, 1, 62, 2, 0);
        dueRings("and another one of 62 of 2", x, 31, 1, 0, 0, 0, 3, 31);
        x.live(3, false);
        dueRings("62 of 2 alone", x, 31, 1, 0, 0, 0, 2, 31);
        MaxplusJunction y = Nets.of(0, 0, 0);
        y.arc(0, 0, 30, 1, 0);
        y.arc(1, 2, 60, 2, 0);
        y.arc(2, 1, 61, 2, 0);
        dueRings("121 of 4 are more than 30", y, 121, 4, 29, 1, 1, 6, 31);
    }

    /** Promise 18: a ring through all departures, of which each arc has a shift of 2. */
    private static void ringsOfMany() {
        MaxplusJunction x = Nets.of(0, 0, 0, 0, 0, 0, 0, 0, 0, 0, 0, 0, 0, 0);
        for (int number = 0; number < 14; number++) {
            x.arc(number, (number + 5) % 14, number == 3 ? 299 : 300, 2, number % 4);
        }
        dueRings("14 * 300 - 1 of 28", x, 4199, 28, 60 - 150, 0, 0, 16383, 150);
        x.arc(7, 7, 299, 2, 0);
        dueRings("4199 of 28 is more than 299 of 2", x, 4199, 28, 60 - 150, 0, 0, 16383, 150);
        x.arc(8, 8, 150, 1, 0);
        dueRings("150", x, 150, 1, -90, 0, 0, 256, 150);
    }

    /** Promise 18: a departure on a way between rings is not critical; rings that meet are one by one. */
    private static void ringsThatMeet() {
        MaxplusJunction x = Nets.of(0, 0, 0, 0, 0);
        x.arc(0, 1, 20, 0, 0);
        x.arc(1, 0, 20, 1, 0);
        x.arc(1, 2, 300, 1, 0);
        x.arc(2, 3, 30, 1, 0);
        x.arc(3, 2, 50, 1, 0);
        x.arc(1, 4, 39, 1, 0);
        x.arc(4, 1, 40, 1, 0);
        dueRings("40 twice, with 300 between", x, 40, 1, 20, 1, 0, 15, 40);
        x.live(5, false);
        x.arc(1, 4, 40, 1, 0);
        dueRings("and 80 of 2 at 1", x, 40, 1, 20, 1, 0, 31, 40);
        Check.due("3 is critical", 1, x.ofDeparture(3, 5));
        x.live(3, false);
        Check.due("3 is not", 0, x.ofDeparture(3, 5));
        Check.due("2 is not", 0, x.ofDeparture(2, 5));
        x.arc(4, 3, 300, 0, 0);
        x.arc(3, 4, 1, 2, 0);
        dueRings("301 of 2", x, 301, 2, 60 - 151, 0, 0, 24, 151);
    }

    /** Promise 18: the timetable HOLDS by its live arcs alone. */
    private static void holds() {
        MaxplusJunction x = Nets.of(0, 30);
        x.arc(0, 1, 30, 0, 0);
        Check.due("slack 0", 1, x.rings(4));
        x.arc(1, 0, 31, 1, 0);
        Check.due("slack -1", 0, x.rings(4));
        x.live(1, false);
        Check.due("that one is broken", 1, x.rings(4));
        x.live(1, true);
        x.period(61);
        Check.due("another period", 1, x.rings(4));
        x.move(1, 29);
        Check.due("moved", 0, x.rings(4));
    }

    /** Promise 19. */
    private static void healing() {
        MaxplusJunction x = Nets.of(0, 20, 40, 50, 0);
        x.arc(0, 1, 15, 0, 0);
        x.arc(1, 2, 17, 0, 0);
        x.arc(0, 2, 30, 0, 0);
        x.arc(2, 3, 10, 0, 0);
        x.arc(3, 0, 60, 2, 1);
        x.arc(4, 3, 50, 0, 2);
        int[][] want = {{0, 5, 8, 8, -1}, {3 + 10, 0, 3, 3, -1}, {10, 15, 0, 0, -1}, {10, 15, 18, 0, -1},
            {10, 15, 18, 0, 0}};
        for (int from = 0; from < 5; from++) {
            for (int to = 0; to < 5; to++) {
                Check.due("healing(" + from + ", " + to + ")", want[from][to], x.healing(from, to));
            }
        }
        x.live(1, false);
        Check.due("by the other way", 10, x.healing(0, 2));
        x.move(3, 49);
        Check.due("it does not hold", Check.NONE, x.healing(0, 1));
        Check.due("nor for itself", Check.NONE, x.healing(4, 4));
        Check.refused("no departure 5", Check.INDEX, x, () -> x.healing(5, 0));
        Check.refused("to 5", Check.INDEX, x, () -> x.healing(0, 5));
        Check.refused("from -1", Check.INDEX, x, () -> x.healing(-1, 0));
        Check.refused("to -1", Check.INDEX, x, () -> x.healing(0, -1));
    }

    /** Promise 20. */
    private static void feels() {
        MaxplusJunction x = Nets.of(0, 20, 45, 0);
        x.arc(0, 1, 15, 0, 0);
        x.arc(1, 2, 22, 0, 0);
        Check.due("one minute", 1, x.feels(0, 1));
        Check.due("as much as heals", 1, x.feels(0, 5));
        Check.due("more than that", 3, x.feels(0, 6));
        Check.due("8", 3, x.feels(0, 8));
        Check.due("9", 7, x.feels(0, 9));
        Check.due("500", 7, x.feels(0, 500));
        Check.due("of 1", 6, x.feels(1, 500));
        Check.due("of 3", 8, x.feels(3, 500));
        x.move(1, 14);
        Check.due("it does not hold", 0, x.feels(0, 500));
        Check.refused("no departure 4", Check.INDEX, x, () -> x.feels(4, 0));
        Check.refused("no departure -1", Check.INDEX, x, () -> x.feels(-1, 1));
        Check.refused("delay 0", Check.ARGUMENT, x, () -> x.feels(0, 0));
        Check.refused("delay 501", Check.ARGUMENT, x, () -> x.feels(0, 501));
    }

    /** Promise 21. */
    private static void free() {
        MaxplusJunction x = Nets.of(500, 600, 700);
        x.arc(0, 1, 10, 0, 0);
        x.arc(1, 0, 20, 2, 0);
        x.arc(1, 2, 5, 1, 0);
        x.arc(2, 2, 12, 1, 0);
        x.delay(0, 0, 100);
        int[][] want = {{0, 0, 30, 30, 60}, {10, 10, 40, 40, 70}, {0, 15, 27, 45, 57}};
        for (int departure = 0; departure < 3; departure++) {
            for (int turn = 0; turn < 5; turn++) {
                Check.due("free(" + departure + ", " + turn + ")", want[departure][turn], x.free(departure, turn));
            }
        }
        Check.due("turn 30", 15 * 30, x.free(0, 30));
        x.live(0, false);
        Check.due("without arc 0", 20, x.free(0, 30));
        Check.refused("no departure 3", Check.INDEX, x, () -> x.free(3, 31));
        Check.refused("no departure -1", Check.INDEX, x, () -> x.free(-1, 0));
        Check.refused("turn 31", Check.ARGUMENT, x, () -> x.free(0, 31));
        Check.refused("turn -1", Check.ARGUMENT, x, () -> x.free(0, -1));
    }

    /** Promise 22. */
    private static void power() {
        MaxplusJunction x = Nets.of(0, 0, 0);
        x.arc(0, 1, 10, 0, 0);
        x.arc(1, 0, 20, 1, 1);
        x.arc(0, 1, 11, 2, 2);
        x.arc(1, 2, 5, 1, 3);
        Check.due("none to itself", 0, x.power(2, 2, 0));
        Check.due("none to another", Check.NONE, x.power(0, 1, 0));
        Check.due("the greater one of two", 11, x.power(0, 1, 1));
        Check.due("one back", Check.NONE, x.power(0, 0, 1));
        Check.due("two back", 31, x.power(0, 0, 2));
        Check.due("two on", 16, x.power(0, 2, 2));
        Check.due("three on", Check.NONE, x.power(0, 2, 3));
        Check.due("thirty", 15 * 31, x.power(1, 1, 30));
        Check.due("thirty on", 14 * 31 + 16, x.power(0, 2, 30));
        Check.due("no way back", Check.NONE, x.power(2, 0, 5));
        x.live(2, false);
        Check.due("the other one of two", 10, x.power(0, 1, 1));
        Check.refused("from 3", Check.INDEX, x, () -> x.power(3, 0, 31));
        Check.refused("to 3", Check.INDEX, x, () -> x.power(0, 3, 31));
        Check.refused("from -1", Check.INDEX, x, () -> x.power(-1, 0, 1));
        Check.refused("to -1", Check.INDEX, x, () -> x.power(0, -1, 1));
        Check.refused("steps 31", Check.ARGUMENT, x, () -> x.power(0, 0, 31));
        Check.refused("steps -1", Check.ARGUMENT, x, () -> x.power(0, 0, -1));
    }
}
