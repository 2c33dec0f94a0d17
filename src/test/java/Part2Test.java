/** "2. Rings and slack": a method for each sentence of this part of the document's "Description". */
public final class Part2Test {
    private static final Object[] NOTHING = {};

    public static void main(String[] args) {
        rings();
        means();
        leastPeriod();
        critical();
        margin();
        stable();
        slack();
        holds();
        healing();
        healingIfItHolds();
        moreThanHealing();
        made();
        free();
        Check.end("Part2Test");
    }

    private static void dueLeast(String what, MaxplusJunction x, int above, int under) {
        Check.due(what + ", above", above, x.rings(0));
        Check.due(what + ", under", under, x.rings(1));
    }

    /**
     * "A RING is a way by LIVE ARCS, one behind the other, that comes back to where it began, and to no
     * DEPARTURE twice in between."
     */
    private static void rings() {
        MaxplusJunction x = Nets.many(4);
        x.arc(0, 1, 10, 0, Nets.RUN);
        x.arc(1, 2, 11, 0, Nets.CONNECTION);
        x.arc(0, 2, 70, 1, Nets.TRACK);
        x.arc(0, 1, 70, 1, Nets.TRACK);
        dueLeast("none comes back", x, 0, 1);
        x.arc(2, 0, 12, 1, Nets.STOCK);
        dueLeast("0, 1, 2: 93 of 2", x, 93, 2);
        x.live(3, false);
        dueLeast("0, 2: 82 of 2", x, 41, 1);
        x.live(2, false);
        dueLeast("0, 1, 2: 33 of 1", x, 33, 1);
        x.arc(3, 3, 20, 2, Nets.STOCK);
        dueLeast("3 alone is less", x, 33, 1);
        x.live(1, false);
        dueLeast("3 alone", x, 10, 1);
        x.live(5, false);
        dueLeast("all others are open", x, 0, 1);
        MaxplusJunction y = Nets.many(3);
        y.arc(0, 1, 10, 0, Nets.RUN);
        y.arc(1, 0, 10, 1, Nets.RUN);
        y.arc(1, 2, 40, 1, Nets.RUN);
        y.arc(2, 1, 40, 1, Nets.RUN);
        dueLeast("40 of 1, not 100 of 3 by which 1 is passed twice", y, 40, 1);
        Check.due("so 0 is not critical", 6, y.rings(5));
    }

    /** "Its MEAN is its TIMES together / its SHIFTS together (the second one is 1 or more)." */
    private static void means() {
        int[][] each = {{10, 0, 25, 2, 35, 2}, {10, 1, 25, 2, 35, 3}, {10, 2, 25, 2, 35, 4}, {10, 0, 25, 1, 35, 1},
            {300, 0, 300, 1, 600, 1}, {1, 2, 2, 2, 3, 4}};
        for (int[] ring : each) {
            MaxplusJunction x = Nets.of(0, 0);
            x.arc(0, 1, ring[0], ring[1], Nets.RUN);
            x.arc(1, 0, ring[2], ring[3], Nets.RUN);
            dueLeast(ring[0] + " and " + ring[2], x, ring[4], ring[5]);
        }
    }

    /**
     * "The LEAST PERIOD is the greatest MEAN of all RINGS, as a fraction that can not be shortened (0 / 1
     * without RINGS)."
     */
    private static void leastPeriod() {
        MaxplusJunction x = new MaxplusJunction();
        dueLeast("of nothing", x, 0, 1);
        for (int number = 0; number < 4; number++) {
            x.departure(0, 0, 1);
        }
        dueLeast("without arcs", x, 0, 1);
        x.arc(0, 0, 21, 2, Nets.RUN);
        dueLeast("21 / 2", x, 21, 2);
        x.arc(1, 1, 10, 1, Nets.RUN);
        dueLeast("10 is less", x, 21, 2);
        x.arc(2, 3, 30, 2, Nets.RUN);
        x.arc(3, 2, 14, 2, Nets.RUN);
        dueLeast("44 / 4", x, 11, 1);
        x.arc(3, 2, 16, 2, Nets.RUN);
        dueLeast("46 / 4", x, 23, 2);
        x.arc(1, 1, 36, 2, Nets.RUN);
        dueLeast("36 / 2", x, 18, 1);
    }

    /** "A DEPARTURE is CRITICAL, if it is in a RING with that MEAN." */
    private static void critical() {
        MaxplusJunction x = Nets.many(6);
        x.arc(0, 1, 15, 1, Nets.RUN);
        x.arc(1, 0, 25, 1, Nets.RUN);
        x.arc(1, 2, 300, 0, Nets.RUN);
        x.arc(3, 3, 20, 1, Nets.RUN);
        x.arc(4, 4, 19, 1, Nets.RUN);
        x.arc(5, 0, 300, 0, Nets.RUN);
        int[] want = {1, 1, 0, 1, 0, 0};
        for (int departure = 0; departure < 6; departure++) {
            Check.due("whether " + departure + " is", want[departure], x.ofDeparture(departure, 5));
        }
        Check.due("0, 1 and 3", 11, x.rings(5));
        x.live(3, false);
        Check.due("0 and 1", 3, x.rings(5));
        x.live(0, false);
        Check.due("4", 16, x.rings(5));
        x.live(4, false);
        Check.due("none", 0, x.rings(5));
    }

    /** "MARGIN is PERIOD less LEAST PERIOD, rounded down (also below 0)." */
    private static void margin() {
        MaxplusJunction x = Nets.of(0);
        Check.due("without rings", 60, x.rings(2));
        x.arc(0, 0, 45, 2, Nets.RUN);
        int[][] each = {{60, 37}, {23, 0}, {22, -1}, {1, -22}, {500, 477}};
        for (int[] period : each) {
            x.period(period[0]);
            Check.due(period[0] + " less 22 1/2", period[1], x.rings(2));
        }
        x.arc(0, 0, 80, 1, Nets.RUN);
        x.period(80);
        Check.due("80 less 80", 0, x.rings(2));
        x.period(79);
        Check.due("79 less 80", -1, x.rings(2));
    }

    /** "The net is STABLE, if LEAST PERIOD is less than PERIOD." */
    private static void stable() {
        MaxplusJunction x = Nets.of(0);
        x.period(1);
        Check.due("0 is less than 1", 1, x.rings(3));
        x.arc(0, 0, 45, 2, Nets.RUN);
        int[][] each = {{22, 0}, {23, 1}, {1, 0}, {500, 1}};
        for (int[] period : each) {
            x.period(period[0]);
            Check.due("22 1/2 is less than " + period[0], period[1], x.rings(3));
        }
        x.arc(0, 0, 30, 1, Nets.RUN);
        x.period(30);
        Check.due("30 is not less than 30", 0, x.rings(3));
        x.period(31);
        Check.due("30 is less than 31", 1, x.rings(3));
    }

    /**
     * "SLACK of an ARC: OFFSET of the second one and SHIFT * PERIOD together, less OFFSET of the first one, less
     * TIME (it can be below 0)."
     */
    private static void slack() {
        MaxplusJunction x = Nets.of(5, 20);
        x.arc(0, 1, 12, 0, Nets.RUN);
        x.arc(1, 0, 20, 1, Nets.STOCK);
        x.arc(1, 0, 20, 2, Nets.CONNECTION);
        x.arc(0, 1, 40, 0, Nets.TRACK);
        x.arc(1, 1, 80, 1, Nets.RUN);
        dueSlacks(x, 3, 25, 85, -25, -20);
        x.period(10);
        dueSlacks(x, 3, -25, -15, -25, -70);
        x.move(0, 0);
        dueSlacks(x, 8, -30, -20, -20, -70);
        x.live(0, false);
        x.live(3, false);
        dueSlacks(x, 8, -30, -20, -20, -70);
    }

    private static void dueSlacks(MaxplusJunction x, int... want) {
        for (int arc = 0; arc < want.length; arc++) {
            Check.due("slack of " + arc, want[arc], x.ofArc(arc, 7));
        }
    }

    /** "The timetable HOLDS, if no LIVE ARC has a SLACK below 0." */
    private static void holds() {
        MaxplusJunction x = Nets.of(0, 20);
        Check.due("without arcs", 1, x.rings(4));
        x.arc(0, 1, 20, 0, Nets.RUN);
        Check.due("0", 1, x.rings(4));
        x.arc(1, 0, 41, 1, Nets.TRACK);
        Check.due("-1", 0, x.rings(4));
        x.live(1, false);
        Check.due("-1 of a broken one", 1, x.rings(4));
        x.move(1, 19);
        Check.due("-1 of the first one", 0, x.rings(4));
        x.move(1, 20);
        x.live(1, true);
        x.period(61);
        Check.due("0 and 0", 1, x.rings(4));
    }

    /**
     * "HEALING from a DEPARTURE i to a DEPARTURE j: the least sum of SLACK of ways by LIVE ARCS from i to j
     * (0 for i itself); NONE without a way."
     */
    private static void healing() {
        MaxplusJunction x = Nets.of(0, 20, 40, 0);
        x.arc(0, 2, 31, 0, Nets.RUN);
        x.arc(0, 1, 15, 0, Nets.RUN);
        x.arc(1, 2, 17, 0, Nets.RUN);
        x.arc(2, 0, 13, 1, Nets.STOCK);
        int[][] want = {{0, 5, 8, -1}, {10, 0, 3, -1}, {7, 12, 0, -1}, {-1, -1, -1, 0}};
        for (int from = 0; from < 4; from++) {
            for (int to = 0; to < 4; to++) {
                Check.due("from " + from + " to " + to, want[from][to], x.healing(from, to));
            }
        }
        x.live(2, false);
        Check.due("by the other way", 9, x.healing(0, 2));
        Check.due("without a way", -1, x.healing(1, 2));
        x.live(0, false);
        Check.due("without any", -1, x.healing(0, 2));
        Check.due("to itself, without any", 0, x.healing(0, 0));
        MaxplusJunction y = Nets.chain(14, 7);
        for (int departure = 1; departure < 14; departure++) {
            y.move(departure, 10 * departure);
        }
        y.arc(0, 13, 90, 0, Nets.TRACK);
        Check.due("3 by each of 13, not 40 by one", 39, y.healing(0, 13));
        y.arc(1, 3, 15, 0, Nets.STOCK);
        Check.due("5 by one and 3 by each of 11", 38, y.healing(0, 13));
    }

    /** "It is asked only if the timetable HOLDS (otherwise NONE)." */
    private static void healingIfItHolds() {
        MaxplusJunction x = Nets.of(0, 20, 40);
        x.arc(0, 1, 15, 0, Nets.RUN);
        x.arc(2, 0, 21, 1, Nets.RUN);
        Check.due("it does not", -1, x.healing(0, 1));
        Check.due("to itself", -1, x.healing(0, 0));
        Check.due("feels nothing", 0, x.feels(0, 500));
        x.live(1, false);
        Check.due("it does", 5, x.healing(0, 1));
        Check.due("to itself, as it does", 0, x.healing(0, 0));
        Check.due("feels", 3, x.feels(0, 500));
        x.move(1, 14);
        Check.due("it does not again", -1, x.healing(0, 1));
    }

    /** "By it a delay of i by more than that reaches j sooner or later." A day shows it: 188 does not, 189 does. */
    private static void moreThanHealing() {
        MaxplusJunction x = Nets.of(0, 20, 40);
        x.arc(0, 1, 15, 1, Nets.RUN);
        x.arc(1, 2, 17, 2, Nets.RUN);
        x.horizon(12);
        x.delay(0, 0, 128);
        Check.due("healing", 188, x.healing(0, 2));
        Check.due("feels less", 3, x.feels(0, 128));
        x.delay(0, 0, 188);
        Check.due("feels just that", 3, x.feels(0, 188));
        Check.due("nothing reaches it", 0, x.ofDeparture(2, 7));
        x.delay(0, 0, 189);
        Check.due("feels more", 7, x.feels(0, 189));
        Check.due("a minute reaches it", 1, x.ofDeparture(2, 7));
        Check.due("at turn 3", 1, x.at(2, 3, 2));
        Check.due("65 is what reaches 1 at least, by more", 1, x.feels(0, 65));
        Check.due("66 does", 3, x.feels(0, 66));
    }

    /**
     * "To MAKE a timetable: each DEPARTURE has the least OFFSET of 0 or more by which no LIVE ARC has a SLACK
     * below 0; that can be, if LEAST PERIOD is no more than PERIOD, and all these OFFSETS are 999 or less."
     */
    private static void made() {
        MaxplusJunction x = Nets.of(7, 500, 3, 99);
        x.arc(0, 1, 40, 0, Nets.RUN);
        x.arc(1, 2, 30, 0, Nets.RUN);
        x.arc(2, 0, 50, 2, Nets.STOCK);
        x.arc(0, 3, 70, 1, Nets.CONNECTION);
        x.arc(0, 3, 300, 0, Nets.TRACK);
        x.live(4, false);
        Check.due("the greatest one", 70, x.make());
        dueOffsets(x, 0, 40, 70, 10);
        x.period(59);
        Check.due("60 is more than 59", -1, x.make());
        dueOffsets(x, 0, 40, 70, 10);
        Check.due("nor would it be", -1, x.wouldMake(59));
        Check.due("60 is no more than 60", 70, x.wouldMake(60));
        MaxplusJunction y = Nets.chain(5, 250);
        Check.due("1000 is more than 999", -1, y.make());
        y.live(0, false);
        y.arc(3, 4, 249, 0, Nets.RUN);
        Check.due("999", 999, y.make());
        dueOffsets(y, 0, 250, 500, 750, 999);
    }

    private static void dueOffsets(MaxplusJunction x, int... want) {
        for (int departure = 0; departure < want.length; departure++) {
            Check.due("offset of " + departure, want[departure], x.ofDeparture(departure, 1));
        }
    }

    /**
     * "FREE times: FREE of the TURN k of a DEPARTURE is the greatest of 0 and FREE of the TURN k - SHIFT of the
     * first one and TIME together, of all LIVE ARCS to it (with k - SHIFT of 0 or more)."
     */
    private static void free() {
        MaxplusJunction x = Nets.of(30, 0);
        x.delay(0, 0, 400);
        x.arc(0, 1, 10, 0, Nets.RUN);
        x.arc(1, 0, 25, 2, Nets.STOCK);
        x.arc(1, 1, 12, 1, Nets.TRACK);
        x.arc(0, 0, 300, 1, Nets.TRACK);
        x.live(3, false);
        int[] first = {0, 0, 35, 47, 70};
        int[] second = {10, 22, 45, 57, 80};
        for (int turn = 0; turn < 5; turn++) {
            Check.due("of 0 at " + turn, first[turn], x.free(0, turn));
            Check.due("of 1 at " + turn, second[turn], x.free(1, turn));
        }
        Check.due("without arcs to it", 0, Nets.of(30).free(0, 30));
    }
}
