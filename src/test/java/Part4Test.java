/** "4. Choices": a method for each sentence of this part of the document's "Description"; of the last one several. */
public final class Part4Test {
    public static void main(String[] args) {
        connectionsThatMayBeBroken();
        whichArcOfAPair();
        pairOfWhichNoneIsLive();
        noRing();
        noRingByTwoOfThem();
        leastCost();
        fewestChanges();
        fewestChangesByAGreaterNumber();
        smallestNumber();
        smallestNumberOfBoth();
        numberOfConnections();
        numberOfPairs();
        Check.end("Part4Test");
    }

    private static void dueBest(String what, MaxplusJunction x, int cost, int number, int changes) {
        Check.due(what + ", cost", cost, x.best(0));
        Check.due(what + ", number", number, x.best(1));
        Check.due(what + ", changes", changes, x.best(2));
    }

    /** The same, and then it is done; which of the ARCS are LIVE then. */
    private static void dueDone(String what, MaxplusJunction x, int cost, int number, int changes, int... live) {
        dueBest(what, x, cost, number, changes);
        Check.due(what + ", done", changes, x.decide());
        dueBest(what + ", done already", x, cost, number, 0);
        Check.due(what + ", cost of the day", cost, x.day(0));
        for (int arc = 0; arc < live.length; arc++) {
            Check.due(what + ", arc " + arc, live[arc], x.ofArc(arc, 6));
        }
    }

    /** A day of one TURN and a PERIOD of 10, so that a BROKEN CONNECTION costs ten times its RIDERS. */
    private static MaxplusJunction brief(int... weights) {
        MaxplusJunction x = new MaxplusJunction();
        x.period(10);
        x.horizon(1);
        for (int weight : weights) {
            x.departure(0, 0, weight);
        }
        return x;
    }

    /**
     * "A CHOICE is what is done with each CONNECTION that may be broken (at most 4 are told so), and with each
     * PAIR: LIVE or BROKEN; which ARC of it is LIVE." The first half.
     */
    private static void connectionsThatMayBeBroken() {
        MaxplusJunction x = brief(1, 1, 1, 1, 1, 1, 1);
        for (int arc = 0; arc < 5; arc++) {
            x.arc(0, arc + 1, 100, 0, Nets.CONNECTION);
        }
        x.arc(0, 6, 100, 0, Nets.RUN);
        dueBest("none may be broken", x, 600, 0, 0);
        for (int arc = 0; arc < 4; arc++) {
            Check.due("so many may be", arc + 1, x.riders(arc, 0, true));
        }
        Check.refused("a fifth one", Check.STATE, x, () -> x.riders(4, 0, true));
        dueDone("four are broken", x, 200, 15, 4, 0, 0, 0, 0, 1, 1);
        Check.due("so many may be without the first one", 3, x.riders(0, 99, false));
        dueDone("that one stays as it is", x, 200 + 990, 7, 0, 0, 0, 0, 0, 1, 1);
        Check.due("there is room for another one", 4, x.riders(4, 0, true));
        dueDone("which is broken", x, 100 + 990, 15, 1, 0, 0, 0, 0, 0, 1);
        x.riders(2, 11, true);
        dueDone("one is live again", x, 200 + 990, 13, 1, 0, 0, 1, 0, 0, 1);
    }

    /** The second half: one of both is LIVE in each CHOICE, and never both or none. */
    private static void whichArcOfAPair() {
        MaxplusJunction x = brief(1, 1, 1);
        x.arc(0, 1, 30, 0, Nets.TRACK);
        x.arc(0, 2, 50, 0, Nets.TRACK);
        x.arc(0, 2, 40, 0, Nets.TRACK);
        x.pair(0, 1);
        Check.due("30 by the first one, and 40", 70, x.day(0));
        dueDone("50 by the second one, the 40 are in it", x, 50, 16, 2, 0, 1, 1);
        x.live(2, false);
        dueDone("30 by the first one", x, 30, 0, 2, 1, 0, 0);
    }

    /** "(A PAIR of which none is LIVE stays so.)" Also if the other one is chosen. */
    private static void pairOfWhichNoneIsLive() {
        MaxplusJunction x = brief(1, 1);
        for (int arc = 0; arc < 4; arc++) {
            x.arc(0, 1, 30 - arc, 0, Nets.TRACK);
        }
        x.pair(0, 1);
        x.pair(2, 3);
        x.live(0, false);
        dueDone("pair 1 is swapped, pair 0 stays", x, 27, 32, 2, 0, 0, 0, 1);
        x.live(3, false);
        dueDone("both stay", x, 0, 0, 0, 0, 0, 0, 0);
        x.live(1, true);
        dueDone("pair 0 is chosen, pair 1 stays", x, 29, 16, 0, 0, 1, 0, 0);
    }

    /**
     * "Among all CHOICES by which LIVE ARCS with a SHIFT of 0 make no ring the BEST one has the least COST; of
     * several that in which the fewest ARCS change between LIVE and BROKEN, then the one with the smallest
     * number: the sum of 2^n for the n-th CONNECTION (from 0 on, by the numbers of ARCS) that may be broken, if
     * it is BROKEN, and of 2^(4 + n) for the PAIR n, if its second ARC is LIVE." First: no ring.
     */
    private static void noRing() {
        for (int shift = 0; shift <= 1; shift++) {
            MaxplusJunction x = brief(1, 1);
            x.arc(1, 0, 1, shift, Nets.TRACK);
            x.live(0, false);
            x.arc(0, 1, 20, 0, Nets.TRACK);
            x.arc(0, 1, 1, 0, Nets.RUN);
            x.pair(1, 0);
            dueBest("the second one by a shift of " + shift, x, shift == 0 ? 20 : 1, 16 * shift, 2 * shift);
            MaxplusJunction y = brief(1, 1);
            y.arc(1, 0, 1, shift, Nets.CONNECTION);
            y.riders(0, 99, true);
            y.live(0, false);
            y.arc(0, 1, 1, 0, Nets.RUN);
            dueBest("live again by a shift of " + shift, y, shift == 0 ? 991 : 1, 1 - shift, shift);
        }
    }

    /** The same: each of two may be as it would be the best, but not both; the cheaper one is. */
    private static void noRingByTwoOfThem() {
        for (int riders : new int[] {2, 4}) {
            MaxplusJunction x = brief(1, 1);
            x.arc(0, 1, 1, 0, Nets.CONNECTION);
            x.riders(0, 3, true);
            x.live(0, false);
            x.arc(1, 0, 1, 0, Nets.CONNECTION);
            x.riders(1, riders, true);
            x.live(1, false);
            boolean isFirstCheaper = riders < 3;
            dueDone("riders " + riders, x, isFirstCheaper ? 21 : 31, isFirstCheaper ? 2 : 1, 1,
                    isFirstCheaper ? 1 : 0, isFirstCheaper ? 0 : 1);
        }
    }

    /** "the BEST one has the least COST": a CONNECTION that costs 10 if it is BROKEN, otherwise what is LATE by it. */
    private static void leastCost() {
        for (int weight = 1; weight <= 2; weight++) {
            for (int late = 3; late <= 12; late++) {
                MaxplusJunction x = brief(1, weight);
                x.arc(0, 1, late, 0, Nets.CONNECTION);
                x.riders(0, 1, true);
                boolean isBroken = weight * late > 10;
                dueDone(late + " by a weight of " + weight, x, isBroken ? 10 : weight * late, isBroken ? 1 : 0,
                        isBroken ? 1 : 0, isBroken ? 0 : 1);
            }
        }
    }

    /** "of several that in which the fewest ARCS change between LIVE and BROKEN": a PAIR that is swapped are two. */
    private static void fewestChanges() {
        MaxplusJunction x = brief(1, 1);
        x.arc(0, 1, 10, 0, Nets.CONNECTION);
        x.riders(0, 1, true);
        dueDone("10 if it is live", x, 10, 0, 0, 1);
        x.live(0, false);
        dueDone("10 if it is broken", x, 10, 1, 0, 0);
        x.arc(0, 1, 10, 0, Nets.TRACK);
        x.arc(0, 1, 10, 0, Nets.TRACK);
        x.pair(1, 2);
        dueDone("live again, as 10 are there already", x, 10, 0, 1, 1, 1, 0);
        x.live(2, true);
        dueDone("10 by each of the pair", x, 10, 16, 0, 1, 0, 1);
    }

    /** The same: one ARC with a greater number rather than two with smaller ones. */
    private static void fewestChangesByAGreaterNumber() {
        MaxplusJunction x = brief(0, 0, 1, 1);
        x.arc(1, 2, 10, 0, Nets.CONNECTION);
        x.arc(1, 3, 10, 0, Nets.CONNECTION);
        x.arc(0, 1, 10, 0, Nets.CONNECTION);
        x.move(2, 10);
        x.move(3, 10);
        for (int arc = 0; arc < 3; arc++) {
            x.riders(arc, 0, true);
        }
        Check.due("10 and 10", 20, x.day(0));
        dueBest("the third one, or the first and the second one", x, 0, 4, 1);
        x.live(1, false);
        dueBest("the first one, or the third one", x, 0, 3, 1);
        x.live(2, false);
        dueBest("the second and the third one as they are", x, 0, 6, 0);
    }

    /** "then the one with the smallest number": two CONNECTIONS, or two PAIRS, one behind the other. */
    private static void smallestNumber() {
        MaxplusJunction x = brief(0, 0, 1);
        x.move(1, 10);
        x.move(2, 20);
        x.arc(1, 2, 10, 0, Nets.CONNECTION);
        x.arc(0, 1, 10, 0, Nets.CONNECTION);
        x.riders(1, 1, true);
        x.riders(0, 1, true);
        x.delay(0, 0, 50);
        dueDone("the smaller one of two that can be broken", x, 10, 1, 1, 0, 1);
        x.live(0, true);
        x.live(1, false);
        dueDone("the greater one, as it is broken", x, 10, 2, 0, 1, 0);
        MaxplusJunction y = brief(0, 0, 1);
        y.move(1, 60);
        y.move(2, 120);
        for (int arc = 0; arc < 4; arc++) {
            y.arc(arc / 2, arc / 2 + 1, arc % 2 == 0 ? 60 : 10, 0, Nets.TRACK);
        }
        y.pair(2, 3);
        y.pair(0, 1);
        y.delay(0, 0, 50);
        dueDone("pair 0, of the arcs 2 and 3", y, 0, 16, 2, 1, 0, 0, 1);
        y.live(2, true);
        y.live(1, true);
        dueDone("pair 1, as it is so", y, 0, 32, 0, 0, 1, 1, 0);
    }

    /** The same: two CONNECTIONS (3 together) rather than a PAIR (16), which change two ARCS each. */
    private static void smallestNumberOfBoth() {
        MaxplusJunction x = brief(0, 0, 1, 1);
        x.move(1, 60);
        x.move(2, 70);
        x.move(3, 70);
        x.arc(0, 1, 60, 0, Nets.TRACK);
        x.arc(0, 1, 10, 0, Nets.TRACK);
        x.pair(0, 1);
        x.arc(1, 2, 10, 0, Nets.CONNECTION);
        x.arc(1, 3, 10, 0, Nets.CONNECTION);
        x.riders(2, 0, true);
        x.riders(3, 0, true);
        x.delay(0, 0, 50);
        Check.due("50 and 50", 100, x.day(0));
        dueBest("both connections", x, 0, 3, 2);
        x.riders(3, 1, true);
        dueBest("the pair, as they have riders", x, 0, 16, 2);
    }

    /**
     * "the sum of 2^n for the n-th CONNECTION (from 0 on, by the numbers of ARCS) that may be broken, if it
     * is BROKEN"
     */
    private static void numberOfConnections() {
        int[] loose = {2, 3, 5, 6};
        for (int number = 0; number < 16; number++) {
            MaxplusJunction x = brief(1, 1);
            for (int kind : new int[] {0, 2, 2, 2, 3, 2, 2}) {
                x.arc(0, 1, 1, 1, kind);
            }
            x.riders(1, 5, false);
            for (int n : new int[] {3, 1, 2, 0}) {
                x.arc(0, x.departure(0, 0, 1), 10, 0, Nets.RUN);
                x.riders(loose[n], 9, true);
                x.live(loose[n], (number >> n & 1) == 0);
            }
            int broken = Integer.bitCount(number);
            Check.due("cost as it is", 40 + 90 * broken, x.day(0));
            dueBest("all are live again", x, 40, 0, broken);
            for (int n = 0; n < 4; n++) {
                x.riders(loose[n], 0, true);
            }
            dueDone("all stay", x, 40, number, 0);
        }
    }

    /** "and of 2^(4 + n) for the PAIR n, if its second ARC is LIVE" */
    private static void numberOfPairs() {
        for (int second = 0; second < 8; second++) {
            MaxplusJunction x = brief(1, 1, 1, 1, 1);
            x.arc(0, 4, 30, 0, Nets.CONNECTION);
            x.riders(0, 0, true);
            for (int n = 0; n < 3; n++) {
                boolean isSecond = (second >> n & 1) == 1;
                x.arc(0, 1 + n, isSecond ? 7 : 8, 0, Nets.TRACK);
                x.arc(0, 1 + n, isSecond ? 8 : 7, 0, Nets.TRACK);
                x.pair(2 + 2 * n, 1 + 2 * n);
            }
            dueDone("pairs " + second, x, 21, 1 + 16 * second, 1 + 2 * Integer.bitCount(second));
        }
    }
}
