/** The edges that the document names of RINGS, SLACK and HEALING (section 2, promises 16 to 20), a sentence each. */
public final class RingEdgesTest {
    private static final Object[] NOTHING = {};

    public static void main(String[] args) {
        setsOfNumbers();
        withoutRings();
        ringsOfOneArc();
        shortened();
        notShortened();
        leastAndGreatestMean();
        marginIsRoundedDown();
        stableIfLess();
        leastWholeNumber();
        criticalOfEqualMeans();
        criticalOfMeansThatAreNearlyEqual();
        criticalOnlyInRings();
        ringsThatShareADeparture();
        parallelArcs();
        slackLeastAndGreatest();
        slackOfBrokenArcs();
        holdsBySlackOf0();
        healingOfItself();
        healingWithoutAWay();
        healingOnlyIfItHolds();
        healingByTheLongestWay();
        moreThanHealingReaches();
        feelsIfHealingIsLess();
        feelsLeastAndGreatestDelay();
        feelsNothingIfItDoesNotHold();
        arcsThatComeAndLeave();
        ofArcWithoutRidersAndPairs();
        Check.end("RingEdgesTest");
    }

    private static void dueLeast(String what, MaxplusJunction x, int above, int under) {
        Check.due(what + ", above", above, x.rings(0));
        Check.due(what + ", under", under, x.rings(1));
    }

    /** A ring of two ARCS with these TIMES and SHIFTS, between the first DEPARTURE and the next one. */
    private static void ring(MaxplusJunction x, int first, int time, int shift, int timeBack, int shiftBack) {
        x.arc(first, first + 1, time, shift, Nets.RUN);
        x.arc(first + 1, first, timeBack, shiftBack, Nets.RUN);
    }

    /** "A set is the sum of 2^k for the numbers k in it.": none, the first one, the last one, all. */
    private static void setsOfNumbers() {
        MaxplusJunction x = Nets.many(14);
        Check.due("none", 0, x.rings(5));
        int sum = 0;
        int power = 1;
        for (int number = 0; number < 14; number++) {
            Check.due("that of " + number + " alone", power, x.feels(number, 1));
            x.arc(number, number, 9, 1, Nets.RUN);
            sum += power;
            Check.due("up to " + number, sum, x.rings(5));
            power *= 2;
        }
        for (int number = 0; number < 13; number++) {
            x.live(number, false);
        }
        Check.due("the last one", 8192, x.rings(5));
        x.live(13, false);
        Check.due("none any more", 0, x.rings(5));
    }

    /** "(0 / 1 without RINGS)" */
    private static void withoutRings() {
        int[] want = {0, 1, 60, 1, 1, 0, 0};
        Check.dueEach(new MaxplusJunction(), "rings", NOTHING, want);
        Check.dueEach(Nets.many(14), "rings", NOTHING, want);
        want[4] = 0;
        Check.dueEach(Nets.chain(14, 300), "rings", NOTHING, want);
        MaxplusJunction x = Nets.chain(14, 300);
        x.arc(13, 0, 300, 1, Nets.RUN);
        Check.due("a ring", 4200, x.rings(0));
        x.live(7, false);
        Check.dueEach(x, "rings", NOTHING, want);
        MaxplusJunction y = Nets.of(0, 0, 0);
        y.arc(0, 1, 1, 2, Nets.RUN);
        y.arc(0, 2, 1, 1, Nets.RUN);
        y.arc(1, 2, 1, 0, Nets.RUN);
        dueLeast("two ways on, none back", y, 0, 1);
    }

    /** A RING of one ARC, back to where it began at once. */
    private static void ringsOfOneArc() {
        for (int departure : new int[] {0, 7, 13}) {
            MaxplusJunction x = Nets.many(14);
            x.arc(departure, departure, 300, 1, Nets.TRACK);
            Check.dueEach(x, "rings", NOTHING, 300, 1, -240, 0, 0, 1 << departure, 300);
            x.live(0, false);
            x.arc(departure, departure, 1, 1, Nets.STOCK);
            Check.dueEach(x, "rings", NOTHING, 1, 1, 59, 1, 1, 1 << departure, 1);
        }
    }

    /** "as a fraction that can not be shortened" */
    private static void shortened() {
        for (int[] each : new int[][] {{300, 2, 150, 1}, {2, 2, 1, 1}, {4, 2, 2, 1}}) {
            MaxplusJunction x = Nets.of(0);
            x.arc(0, 0, each[0], each[1], Nets.RUN);
            dueLeast(each[0] + " of " + each[1], x, each[2], each[3]);
        }
        for (int[] each : new int[][] {{100, 20, 30, 1}, {3, 3, 3, 2}, {1, 1, 1, 2}, {5, 9, 7, 2}, {299, 300, 599, 4}}) {
            MaxplusJunction x = Nets.of(0, 0);
            ring(x, 0, each[0], 2, each[1], 2);
            dueLeast(each[0] + " and " + each[1] + " of 4", x, each[2], each[3]);
        }
        MaxplusJunction x = Nets.many(14);
        for (int number = 0; number < 14; number++) {
            x.arc(number, (number + 1) % 14, 5, 2, Nets.RUN);
        }
        dueLeast("70 of 28 are 5 of 2", x, 5, 2);
        x.live(3, false);
        x.arc(3, 4, 19, 2, Nets.RUN);
        dueLeast("84 of 28 are 3", x, 3, 1);
        x.live(14, false);
        x.arc(3, 4, 12, 2, Nets.RUN);
        dueLeast("77 of 28 are 11 of 4", x, 11, 4);
    }

    /** The same: what can not be shortened stays. */
    private static void notShortened() {
        for (int[] each : new int[][] {{1, 2}, {3, 2}, {299, 2}, {1, 1}, {300, 1}}) {
            MaxplusJunction x = Nets.of(0);
            x.arc(0, 0, each[0], each[1], Nets.RUN);
            dueLeast(each[0] + " of " + each[1], x, each[0], each[1]);
        }
        for (int more = 1; more < 28; more += 2) {
            MaxplusJunction x = Nets.many(14);
            for (int number = 0; number < 14; number++) {
                x.arc(number, (number + 1) % 14, number == 0 ? 56 + more : 56, 2, Nets.RUN);
            }
            int by = more % 7 == 0 ? 7 : 1;
            dueLeast("28 * 28 and " + more + " of 28", x, (784 + more) / by, 28 / by);
        }
    }

    /** The least MEAN that there can be, and the greatest. */
    private static void leastAndGreatestMean() {
        MaxplusJunction x = Nets.many(14);
        for (int number = 0; number < 14; number++) {
            x.arc(number, (number + 1) % 14, 1, 2, Nets.RUN);
        }
        x.period(1);
        Check.dueEach(x, "rings", NOTHING, 1, 2, 0, 1, 1, 16383, 1);
        MaxplusJunction y = Nets.chain(14, 300);
        y.arc(13, 0, 300, 1, Nets.RUN);
        y.period(1);
        Check.dueEach(y, "rings", NOTHING, 4200, 1, -4199, 0, 0, 16383, 4200);
        y.period(500);
        Check.dueEach(y, "rings", NOTHING, 4200, 1, -3700, 0, 0, 16383, 4200);
    }

    /** "MARGIN is PERIOD less LEAST PERIOD, rounded down (also below 0)." */
    private static void marginIsRoundedDown() {
        int[][] margins = {{121, 59, -2}, {121, 60, -1}, {121, 61, 0}, {121, 62, 1}, {120, 59, -1}, {120, 60, 0},
            {120, 61, 1}, {119, 59, -1}, {119, 60, 0}, {119, 61, 1}};
        for (int[] each : margins) {
            MaxplusJunction x = Nets.of(0, 0);
            ring(x, 0, 60, 1, each[0] - 60, 1);
            x.period(each[1]);
            Check.due(each[1] + " less " + each[0] + " of 2", each[2], x.rings(2));
        }
        // By thirds and quarters: 100 / 3 is 33 and a third, 101 / 3 less than 34, 135 / 4 less than 34.
        int[][] more = {{100, 3, 33, -1}, {100, 3, 34, 0}, {101, 3, 33, -1}, {101, 3, 34, 0}, {99, 3, 33, 0},
            {135, 4, 33, -1}, {133, 4, 33, -1}, {133, 4, 34, 0}, {132, 4, 33, 0}, {135, 4, 32, -2}};
        for (int[] each : more) {
            MaxplusJunction x = Nets.of(0, 0);
            ring(x, 0, 50, 2, each[0] - 50, each[1] - 2);
            x.period(each[2]);
            Check.due(each[2] + " less " + each[0] + " of " + each[1], each[3], x.rings(2));
        }
    }

    /** "The net is STABLE, if LEAST PERIOD is less than PERIOD." */
    private static void stableIfLess() {
        MaxplusJunction x = Nets.of(0, 0);
        ring(x, 0, 60, 1, 59, 1);
        Check.due("119 of 2", 1, x.rings(3));
        x.arc(1, 0, 60, 1, Nets.RUN);
        Check.due("120 of 2", 0, x.rings(3));
        x.period(61);
        Check.due("120 of 2 by 61", 1, x.rings(3));
        x.arc(1, 0, 61, 1, Nets.RUN);
        Check.due("121 of 2 by 61", 1, x.rings(3));
        x.period(60);
        Check.due("121 of 2 by 60", 0, x.rings(3));
        MaxplusJunction y = Nets.many(1);
        y.period(1);
        Check.due("0 of 1 by 1", 1, y.rings(3));
        y.arc(0, 0, 1, 1, Nets.RUN);
        Check.due("1 of 1 by 1", 0, y.rings(3));
        y.live(0, false);
        y.arc(0, 0, 1, 2, Nets.RUN);
        Check.due("1 of 2 by 1", 1, y.rings(3));
    }

    /** "6 the least whole number that is no less than LEAST PERIOD" */
    private static void leastWholeNumber() {
        for (int time = 1; time <= 9; time++) {
            for (int shifts = 1; shifts <= 4; shifts++) {
                MaxplusJunction x = Nets.of(0, 0);
                ring(x, 0, 1, shifts / 2, time, shifts - shifts / 2);
                int least = (time + 1) / shifts + ((time + 1) % shifts > 0 ? 1 : 0);
                Check.due(time + 1 + " of " + shifts, least, x.rings(6));
            }
        }
    }

    /** "A DEPARTURE is CRITICAL, if it is in a RING with that MEAN": 60 of 1, 120 of 2 and 180 of 3. */
    private static void criticalOfEqualMeans() {
        MaxplusJunction x = Nets.many(14);
        x.arc(13, 13, 60, 1, Nets.RUN);
        ring(x, 0, 100, 1, 20, 1);
        x.arc(4, 5, 90, 2, Nets.RUN);
        x.arc(5, 6, 80, 0, Nets.RUN);
        x.arc(6, 4, 10, 1, Nets.RUN);
        ring(x, 8, 60, 1, 59, 1);
        Check.due("all with a mean of 60", 1 + 2 + 16 + 32 + 64 + 8192, x.rings(5));
        for (int number = 0; number < 14; number++) {
            int want = x.rings(5) >> number & 1;
            Check.due("critical: " + number, want, x.ofDeparture(number, 5));
        }
        x.arc(12, 12, 121, 2, Nets.RUN);
        Check.due("one with a greater mean", 4096, x.rings(5));
        dueLeast("one with a greater mean", x, 121, 2);
        x.live(8, false);
        Check.due("without it", 1 + 2 + 16 + 32 + 64 + 8192, x.rings(5));
    }

    /** The same: 7 of 4 are more than 5 of 3, whichever of them has the smaller numbers. */
    private static void criticalOfMeansThatAreNearlyEqual() {
        for (int turned = 0; turned < 2; turned++) {
            MaxplusJunction x = Nets.many(4);
            ring(x, 2 * turned, 3, 2, 4, 2);
            ring(x, 2 - 2 * turned, 2, 1, 3, 2);
            dueLeast("7 of 4 and 5 of 3", x, 7, 4);
            Check.due("the first ring", turned == 0 ? 3 : 12, x.rings(5));
        }
    }

    /** "if it is in a RING": not one on a way from, to or between such RINGS. */
    private static void criticalOnlyInRings() {
        MaxplusJunction x = Nets.many(7);
        x.arc(0, 1, 300, 0, Nets.RUN);
        ring(x, 1, 30, 0, 30, 1);
        x.arc(2, 3, 300, 0, Nets.RUN);
        x.arc(3, 4, 300, 0, Nets.RUN);
        ring(x, 4, 30, 1, 90, 1);
        x.arc(5, 6, 300, 0, Nets.RUN);
        Check.due("1, 2, 4 and 5", 2 + 4 + 16 + 32, x.rings(5));
    }

    /** "and to no DEPARTURE twice in between": two RINGS that meet are two, each with its MEAN. */
    private static void ringsThatShareADeparture() {
        MaxplusJunction x = Nets.many(3);
        x.arc(0, 1, 50, 0, Nets.RUN);
        x.arc(1, 0, 50, 2, Nets.RUN);
        x.arc(1, 2, 29, 1, Nets.RUN);
        x.arc(2, 1, 29, 1, Nets.RUN);
        dueLeast("100 of 2 and 58 of 2", x, 50, 1);
        Check.due("only the first ring", 3, x.rings(5));
        x.live(2, false);
        x.arc(1, 2, 71, 1, Nets.RUN);
        Check.due("100 of 2 and 100 of 2", 7, x.rings(5));
        x.live(4, false);
        x.arc(1, 2, 72, 1, Nets.RUN);
        dueLeast("100 of 2 and 101 of 2", x, 101, 2);
        Check.due("only the second ring", 6, x.rings(5));
    }

    /** Of ARCS from the same one to the same one each makes a RING of its own, by its TIME and its SHIFT. */
    private static void parallelArcs() {
        MaxplusJunction x = Nets.many(2);
        x.arc(0, 1, 10, 0, Nets.RUN);
        x.arc(1, 0, 40, 1, Nets.RUN);
        x.arc(1, 0, 91, 2, Nets.RUN);
        dueLeast("50 of 1 and 101 of 2", x, 101, 2);
        x.arc(1, 0, 41, 1, Nets.RUN);
        dueLeast("51 of 1", x, 51, 1);
        x.arc(0, 1, 61, 1, Nets.RUN);
        dueLeast("102 of 2 are as much", x, 51, 1);
        x.arc(0, 1, 12, 0, Nets.RUN);
        dueLeast("12 and 41 of 1", x, 53, 1);
    }

    /** "SLACK of an ARC .. (it can be below 0)" */
    private static void slackLeastAndGreatest() {
        MaxplusJunction x = Nets.of(0, 999);
        x.arc(1, 0, 300, 0, Nets.RUN);
        x.arc(0, 1, 1, 2, Nets.RUN);
        x.arc(0, 0, 60, 1, Nets.RUN);
        x.arc(0, 1, 299, 1, Nets.RUN);
        x.period(500);
        int[] by500 = {-1299, 1998, 440, 1200};
        for (int arc = 0; arc < 4; arc++) {
            Check.due("slack of " + arc + " by 500", by500[arc], x.ofArc(arc, 7));
        }
        x.period(60);
        Check.due("just 0", 0, x.ofArc(2, 7));
        x.period(59);
        Check.due("just below 0", -1, x.ofArc(2, 7));
        x.period(1);
        int[] by1 = {-1299, 1000, -59, 701};
        for (int arc = 0; arc < 4; arc++) {
            Check.due("slack of " + arc + " by 1", by1[arc], x.ofArc(arc, 7));
        }
    }

    /** "SLACK of an ARC": also of one that is BROKEN. */
    private static void slackOfBrokenArcs() {
        MaxplusJunction x = Nets.of(10, 0);
        x.arc(0, 1, 5, 1, Nets.TRACK);
        x.live(0, false);
        Check.due("broken", 45, x.ofArc(0, 7));
        x.move(1, 7);
        Check.due("moved", 52, x.ofArc(0, 7));
        x.period(1);
        Check.due("by another period", -7, x.ofArc(0, 7));
    }

    /** "The timetable HOLDS, if no LIVE ARC has a SLACK below 0." */
    private static void holdsBySlackOf0() {
        Check.due("without departures", 1, new MaxplusJunction().rings(4));
        Check.due("without arcs", 1, Nets.of(999, 0).rings(4));
        MaxplusJunction x = Nets.of(0, 30);
        x.arc(0, 1, 30, 0, Nets.TRACK);
        Check.due("slack 0", 1, x.rings(4));
        x.move(0, 1);
        Check.due("slack -1", 0, x.rings(4));
        x.live(0, false);
        Check.due("slack -1 of one that is broken", 1, x.rings(4));
        for (int number = 0; number < 35; number++) {
            x.arc(0, 1, 29, 0, Nets.TRACK);
        }
        Check.due("35 of 0", 1, x.rings(4));
        x.live(0, true);
        Check.due("the first of 36", 0, x.rings(4));
        x.live(0, false);
        x.live(35, false);
        x.move(1, 29);
        x.live(34, false);
        Check.due("33 of -1", 0, x.rings(4));
        x.move(1, 999);
        Check.due("33 of more", 1, x.rings(4));
    }

    /** "(0 for i itself)": whatever RING leads back. */
    private static void healingOfItself() {
        for (int departure = 0; departure < 14; departure++) {
            Check.due("without arcs", 0, Nets.many(14).healing(departure, departure));
        }
        MaxplusJunction x = Nets.of(0, 20);
        x.arc(0, 1, 15, 0, Nets.RUN);
        x.arc(1, 0, 30, 1, Nets.RUN);
        x.arc(0, 0, 60, 1, Nets.RUN);
        Check.due("0", 0, x.healing(0, 0));
        Check.due("1", 0, x.healing(1, 1));
        Check.due("there", 5, x.healing(0, 1));
        Check.due("back", 10, x.healing(1, 0));
        MaxplusJunction y = Nets.of(0, 20);
        y.arc(0, 1, 20, 0, Nets.RUN);
        y.arc(1, 0, 40, 1, Nets.RUN);
        Check.due("nothing heals there", 0, y.healing(0, 1));
        Check.due("nothing heals back", 0, y.healing(1, 0));
    }

    /** "NONE without a way" */
    private static void healingWithoutAWay() {
        MaxplusJunction x = Nets.of(0, 20, 40, 60);
        x.arc(0, 1, 5, 0, Nets.RUN);
        x.arc(1, 2, 5, 0, Nets.RUN);
        Check.due("against the arcs", Check.NONE, x.healing(2, 0));
        Check.due("to one that none comes to", Check.NONE, x.healing(0, 3));
        Check.due("from one that none leaves", Check.NONE, x.healing(3, 0));
        Check.due("a way", 30, x.healing(0, 2));
        x.live(1, false);
        Check.due("a broken way", Check.NONE, x.healing(0, 2));
        Check.due("as far as it is not broken", 15, x.healing(0, 1));
        Check.due("of nothing", Check.NONE, Nets.many(14).healing(0, 13));
    }

    /** "It is asked only if the timetable HOLDS (otherwise NONE)." */
    private static void healingOnlyIfItHolds() {
        MaxplusJunction x = Nets.of(0, 20, 40, 60);
        x.arc(0, 1, 20, 0, Nets.RUN);
        x.arc(2, 3, 20, 0, Nets.RUN);
        Check.due("it holds", 0, x.healing(0, 1));
        x.move(3, 59);
        for (int from = 0; from < 4; from++) {
            for (int to = 0; to < 4; to++) {
                Check.due("it does not hold: " + from + " to " + to, Check.NONE, x.healing(from, to));
            }
        }
        x.live(1, false);
        Check.due("it holds again", 0, x.healing(0, 1));
        Check.due("and for itself", 0, x.healing(3, 3));
    }

    /** "the least sum of SLACK of ways by LIVE ARCS": by 13 ARCS, against their numbers; and by fewer. */
    private static void healingByTheLongestWay() {
        MaxplusJunction x = Nets.many(14);
        for (int number = 12; number >= 0; number--) {
            x.arc(number, number + 1, 1, 2, Nets.RUN);
        }
        x.period(500);
        Check.due("13 * 999", 12987, x.healing(0, 13));
        Check.due("12 * 999", 11988, x.healing(1, 13));
        x.arc(0, 13, 1, 2, Nets.RUN);
        Check.due("999 at once", 999, x.healing(0, 13));
        x.arc(0, 7, 300, 1, Nets.RUN);
        x.arc(7, 13, 300, 1, Nets.RUN);
        Check.due("200 and 200", 400, x.healing(0, 13));
        x.arc(7, 13, 300, 2, Nets.RUN);
        Check.due("the least one of two", 400, x.healing(0, 13));
    }

    /** "By it a delay of i by more than that reaches j sooner or later": so a DAY of 12 TURNS shows it. */
    private static void moreThanHealingReaches() {
        for (int seed = 0; seed < 100; seed += 7) {
            int departures = 0;
            while (!Answers.of(madeOf(seed), "healing", 0, departures).endsWith("Exception")) {
                departures++;
            }
            for (int from = 0; from < departures; from++) {
                MaxplusJunction x = madeOf(seed);
                for (int to = 0; to < departures; to++) {
                    dueReached("seed " + seed + ", " + from + " to " + to, x, from, to);
                }
            }
        }
    }

    private static MaxplusJunction madeOf(int seed) {
        MaxplusJunction x = new MaxplusJunction();
        x.lay(4, seed);
        x.period(80 + seed);
        x.make();
        x.horizon(12);
        return x;
    }

    private static void dueReached(String what, MaxplusJunction x, int from, int to) {
        int healing = x.healing(from, to);
        if (healing == Check.NONE || healing >= 500) {
            x.delay(from, 0, 500);
            Check.due(what + ", by 500", 0, x.ofDeparture(to, 7));
            return;
        }
        x.delay(from, 0, healing);
        Check.due(what + ", by as much", 0, from == to ? 0 : x.ofDeparture(to, 7));
        x.delay(from, 0, healing + 1);
        Check.due(what + ", by more", true, x.ofDeparture(to, 7) > 0);
    }

    /** "those to which there is HEALING, and it is less" */
    private static void feelsIfHealingIsLess() {
        MaxplusJunction x = Nets.of(0, 20, 50, 50);
        x.arc(0, 1, 13, 0, Nets.RUN);
        x.arc(1, 2, 25, 0, Nets.RUN);
        Check.due("7 as 7", 1, x.feels(0, 7));
        Check.due("7 as 8", 3, x.feels(0, 8));
        Check.due("12 as 12", 3, x.feels(0, 12));
        Check.due("12 as 13", 7, x.feels(0, 13));
        Check.due("none to 3", 7, x.feels(0, 500));
        Check.due("3 itself", 8, x.feels(3, 1));
    }

    /** "IllegalArgumentException if delay is not 1 to 500": what 1 and 500 reach. */
    private static void feelsLeastAndGreatestDelay() {
        MaxplusJunction x = Nets.of(0, 20, 521, 520);
        x.arc(0, 1, 20, 0, Nets.RUN);
        x.arc(1, 2, 1, 0, Nets.RUN);
        x.arc(1, 3, 1, 0, Nets.RUN);
        Check.due("1: itself, and where nothing heals", 3, x.feels(0, 1));
        Check.due("healing of 500", 500, x.healing(0, 2));
        Check.due("healing of 499", 499, x.healing(0, 3));
        Check.due("500: what heals by 499", 11, x.feels(0, 500));
        Check.due("499", 3, x.feels(0, 499));
        MaxplusJunction y = Nets.many(14);
        for (int number = 0; number < 14; number++) {
            y.arc(number, (number + 1) % 14, 60, 1, Nets.RUN);
        }
        for (int number = 0; number < 14; number++) {
            Check.due("all by 1", 16383, y.feels(number, 1));
            Check.due("one by 1", 1 << number, Nets.many(14).feels(number, 1));
        }
    }

    /** "0, if the timetable does not HOLD" */
    private static void feelsNothingIfItDoesNotHold() {
        MaxplusJunction x = Nets.of(0, 20, 40);
        x.arc(0, 1, 21, 0, Nets.RUN);
        for (int departure = 0; departure < 3; departure++) {
            Check.due("of " + departure, 0, x.feels(departure, 500));
        }
        x.live(0, false);
        for (int departure = 0; departure < 3; departure++) {
            Check.due("of " + departure + ", it holds", 1 << departure, x.feels(departure, 500));
        }
    }

    /** "3 how many LIVE ARCS come to it, 4 how many leave it": none, all, one that does both. */
    private static void arcsThatComeAndLeave() {
        MaxplusJunction x = Nets.many(2);
        Check.due("none comes", 0, x.ofDeparture(0, 3));
        Check.due("none leaves", 0, x.ofDeparture(0, 4));
        x.arc(0, 0, 1, 1, Nets.RUN);
        Check.due("one comes", 1, x.ofDeparture(0, 3));
        Check.due("and leaves", 1, x.ofDeparture(0, 4));
        for (int number = 1; number < 36; number++) {
            x.arc(0, 1, 1, 1, Nets.RUN);
        }
        Check.due("35 come to 1", 35, x.ofDeparture(1, 3));
        Check.due("36 leave 0", 36, x.ofDeparture(0, 4));
        Check.due("none leaves 1", 0, x.ofDeparture(1, 4));
        x.live(0, false);
        x.live(35, false);
        Check.due("34 come to 1", 34, x.ofDeparture(1, 3));
        Check.due("34 leave 0", 34, x.ofDeparture(0, 4));
        Check.due("none comes to 0", 0, x.ofDeparture(0, 3));
    }

    /** "5 RIDERS (0, if it is no CONNECTION)"; "9 the other ARC of its PAIR (NONE)" */
    private static void ofArcWithoutRidersAndPairs() {
        MaxplusJunction x = Nets.of(0, 30);
        for (int kind = 0; kind < 4; kind++) {
            x.arc(0, 1, 10, 1, kind);
            Check.dueEach(x, "ofArc", new Object[] {kind}, 0, 1, 10, 1, kind, 0, 1, 80, 0, -1);
        }
        x.riders(2, 44, true);
        x.arc(0, 1, 10, 1, Nets.TRACK);
        x.pair(4, 3);
        int[][] want = {{0, 1, 0, -1}, {0, 1, 0, -1}, {44, 1, 1, -1}, {0, 0, 0, 4}, {0, 1, 0, 3}};
        for (int arc = 0; arc < 5; arc++) {
            Check.due("riders of " + arc, want[arc][0], x.ofArc(arc, 5));
            Check.due("live: " + arc, want[arc][1], x.ofArc(arc, 6));
            Check.due("may be broken: " + arc, want[arc][2], x.ofArc(arc, 8));
            Check.due("the other one of " + arc, want[arc][3], x.ofArc(arc, 9));
        }
    }
}
