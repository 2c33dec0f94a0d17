/** The edges that the document names of CHOICES (section 4, promises 6, 15 and 29), a sentence each. */
public final class ChoiceEdgesTest {
    private static final Object[] NOTHING = {};

    public static void main(String[] args) {
        nothingToChoose();
        fourMayBeBroken();
        noFifth();
        roomForAnother();
        onlyThoseThatMayBeBroken();
        allThatCanBeChosen();
        byTheNumbersOfArcs();
        bitsOfPairs();
        pairOfWhichNoneIsLive();
        brokenOneBecomesLive();
        brokenOneThatWouldMakeARing();
        pairThatWouldMakeARing();
        ringOfTwoChoices();
        leastCostByOneMinute();
        fewestChanges();
        smallestNumberOfConnections();
        smallestNumberOfConnectionsAndPairs();
        doneOnce();
        askingChangesNothing();
        Check.end("ChoiceEdgesTest");
    }

    private static void dueBest(String what, MaxplusJunction x, int cost, int number, int changes) {
        Check.due(what + ", cost", cost, x.best(0));
        Check.due(what + ", number", number, x.best(1));
        Check.due(what + ", changes", changes, x.best(2));
    }

    /** CONNECTIONS from 0 to each of the others, that may be broken, without RIDERS. */
    private static MaxplusJunction star(int connections, int time) {
        MaxplusJunction x = Nets.many(connections + 1);
        x.horizon(1);
        for (int number = 1; number <= connections; number++) {
            x.arc(0, number, time, 0, Nets.CONNECTION);
        }
        return x;
    }

    /** Without anything that can be chosen the BEST CHOICE is what is. */
    private static void nothingToChoose() {
        dueBest("without departures", new MaxplusJunction(), 0, 0, 0);
        MaxplusJunction x = star(3, 100);
        x.arc(0, 1, 5, 0, Nets.TRACK);
        x.riders(0, 9, false);
        x.live(1, false);
        dueBest("none may be broken, no pair", x, 200, 0, 0);
        Check.due("nothing is done", 0, x.decide());
        Check.unchanged("nothing is done", () -> star(3, 100), y -> y.decide());
    }

    /** "(at most 4 are told so)"; riders() "Returns how many CONNECTIONS may be broken then." */
    private static void fourMayBeBroken() {
        MaxplusJunction x = star(6, 100);
        Check.due("none", 0, x.riders(0, 9, false));
        int[] order = {5, 1, 4, 2};
        for (int n = 0; n < 4; n++) {
            Check.due("number " + n, n + 1, x.riders(order[n], 0, true));
        }
        int[] told = {0, 1, 1, 0, 1, 1};
        for (int arc = 0; arc < 6; arc++) {
            Check.due("may be broken: " + arc, told[arc], x.ofArc(arc, 8));
        }
        dueBest("all four are", x, 200, 15, 4);
    }

    private static MaxplusJunction fourOfSix() {
        MaxplusJunction x = star(6, 100);
        for (int number = 1; number < 5; number++) {
            x.riders(number, 3, true);
        }
        return x;
    }

    /** "or it would be a fifth that may be broken" */
    private static void noFifth() {
        Answers.Maker net = ChoiceEdgesTest::fourOfSix;
        Check.refused("0 as a fifth", Check.STATE, net, x -> x.riders(0, 99, true));
        Check.refused("5 as a fifth", Check.STATE, net, x -> x.riders(5, 0, true));
        Check.due("0 that may not", 4, net.make().riders(0, 99, false));
        for (int number = 1; number < 5; number++) {
            MaxplusJunction x = net.make();
            Check.due("one of the four again", 4, x.riders(number, 99, true));
            Check.due("its riders", 99, x.ofArc(number, 5));
            x.live(number, false);
            Check.due("the same, broken", 4, x.riders(number, 7, true));
            Check.due("a fifth while one is broken", Check.STATE, Answers.of(x, "riders", 0, 1, true));
        }
    }

    /** The same: as one of the four may not be broken any more, another one may. */
    private static void roomForAnother() {
        for (int number = 1; number < 5; number++) {
            MaxplusJunction x = fourOfSix();
            Check.due("one less", 3, x.riders(number, 3, false));
            Check.due("the same again", 3, x.riders(number, 3, false));
            Check.due("another one", 4, x.riders(5, 3, true));
            Check.due("the first one now", Check.STATE, Answers.of(x, "riders", number, 3, true));
        }
    }

    /** "what is done with each CONNECTION that may be broken": the others stay as they are. */
    private static void onlyThoseThatMayBeBroken() {
        MaxplusJunction x = star(3, 100);
        x.riders(1, 1, true);
        x.live(2, false);
        dueBest("only the second one", x, 60 + 100, 1, 1);
        Check.due("done", 1, x.decide());
        int[] live = {1, 0, 0};
        for (int arc = 0; arc < 3; arc++) {
            Check.due("live: " + arc, live[arc], x.ofArc(arc, 6));
        }
    }

    /** "the sum of 2^n for the n-th CONNECTION .., and of 2^(4 + n) for the PAIR n": all at once. */
    private static void allThatCanBeChosen() {
        MaxplusJunction x = star(7, 100);
        x.live(4, false);
        x.live(5, false);
        x.live(6, false);
        for (int arc = 0; arc < 4; arc++) {
            x.riders(arc, 0, true);
        }
        for (int pair = 0; pair < 3; pair++) {
            x.arc(0, 5 + pair, 80, 0, Nets.TRACK);
            x.arc(0, 5 + pair, 70, 0, Nets.TRACK);
            x.pair(7 + 2 * pair, 8 + 2 * pair);
        }
        dueBest("127", x, 210, 127, 10);
        Check.due("ten change", 10, x.decide());
        dueBest("as it is then", x, 210, 127, 0);
        Check.due("how many are broken", 10, x.day(6));
    }

    /** "the n-th CONNECTION (from 0 on, by the numbers of ARCS) that may be broken" */
    private static void byTheNumbersOfArcs() {
        MaxplusJunction x = star(6, 100);
        x.riders(5, 0, true);
        x.riders(3, 2, true);
        x.riders(0, 0, true);
        x.riders(2, 2, true);
        dueBest("0 and 5 of 0, 2, 3 and 5", x, 400, 1 + 8, 2);
        x.riders(2, 1, true);
        dueBest("0, 2 and 5", x, 360, 1 + 2 + 8, 3);
        x.riders(0, 0, false);
        dueBest("2 and 5 of 2, 3 and 5", x, 460, 1 + 4, 2);
        x.riders(1, 0, true);
        dueBest("1, 2 and 5 of 1, 2, 3 and 5", x, 360, 1 + 2 + 8, 3);
    }

    /** "and of 2^(4 + n) for the PAIR n, if its second ARC is LIVE": whatever may be broken. */
    private static void bitsOfPairs() {
        for (int better = 0; better < 8; better++) {
            MaxplusJunction x = Nets.many(4);
            x.horizon(1);
            int cost = 0;
            int changes = 0;
            for (int pair = 0; pair < 3; pair++) {
                boolean isOther = (better >> pair & 1) == 1;
                x.arc(0, pair + 1, isOther ? 60 : 10, 0, Nets.TRACK);
                x.arc(0, pair + 1, isOther ? 10 : 60, 0, Nets.TRACK);
                x.pair(2 * pair, 2 * pair + 1);
                cost += 10;
                changes += isOther ? 2 : 0;
            }
            dueBest("better " + better, x, cost, better << 4, changes);
            Check.due("done", changes, x.decide());
            dueBest("better " + better + " is done", x, cost, better << 4, 0);
        }
    }

    /** "(A PAIR of which none is LIVE stays so.)": also where one of them would cost nothing. */
    private static void pairOfWhichNoneIsLive() {
        MaxplusJunction x = Nets.many(3);
        x.horizon(1);
        x.arc(0, 1, 60, 0, Nets.TRACK);
        x.arc(0, 1, 10, 0, Nets.TRACK);
        x.arc(0, 2, 60, 0, Nets.TRACK);
        x.arc(0, 2, 10, 0, Nets.TRACK);
        x.pair(0, 1);
        x.pair(2, 3);
        x.live(0, false);
        dueBest("only the second pair", x, 10, 32, 2);
        Check.due("done", 2, x.decide());
        int[] live = {0, 0, 0, 1};
        for (int arc = 0; arc < 4; arc++) {
            Check.due("live: " + arc, live[arc], x.ofArc(arc, 6));
        }
        x.live(3, false);
        dueBest("no pair", x, 0, 0, 0);
        x.live(1, true);
        dueBest("its second one is live", x, 10, 16, 0);
        MaxplusJunction y = star(4, 100);
        y.arc(0, 1, 60, 0, Nets.TRACK);
        y.arc(0, 1, 10, 0, Nets.TRACK);
        y.pair(4, 5);
        y.live(4, false);
        for (int arc = 0; arc < 4; arc++) {
            y.riders(arc, 1, true);
        }
        dueBest("four connections, and no pair", y, 240, 15, 4);
        Check.due("four change", 4, y.decide());
        Check.due("none of the pair", 0, y.ofArc(4, 6) + y.ofArc(5, 6));
        dueBest("four connections are broken, and no pair", y, 240, 15, 0);
    }

    /** "LIVE or BROKEN": one that is BROKEN may become LIVE. */
    private static void brokenOneBecomesLive() {
        MaxplusJunction x = star(1, 100);
        x.riders(0, 2, true);
        x.live(0, false);
        dueBest("100 against 120", x, 100, 0, 1);
        x.riders(0, 1, true);
        dueBest("100 against 60", x, 60, 1, 0);
        x.riders(0, 2, false);
        dueBest("it may not be live either", x, 120, 0, 0);
        x.riders(0, 2, true);
        Check.due("done", 1, x.decide());
        Check.due("live", 1, x.ofArc(0, 6));
    }

    /** "by which LIVE ARCS with a SHIFT of 0 make no ring": a CONNECTION. */
    private static void brokenOneThatWouldMakeARing() {
        MaxplusJunction x = Nets.many(2);
        x.horizon(1);
        x.arc(0, 1, 1, 0, Nets.CONNECTION);
        x.riders(0, 99, true);
        x.live(0, false);
        x.arc(1, 0, 1, 0, Nets.RUN);
        dueBest("it would cost less, but can not be", x, 99 * 60 + 1, 1, 0);
        Check.due("nothing is done", 0, x.decide());
        Check.due("broken", 0, x.ofArc(0, 6));
        x.live(1, false);
        dueBest("now it can be", x, 1, 0, 1);
    }

    /** The same: a PAIR. */
    private static void pairThatWouldMakeARing() {
        MaxplusJunction x = Nets.many(3);
        x.horizon(2);
        x.arc(0, 1, 50, 0, Nets.TRACK);
        x.live(0, false);
        x.arc(1, 2, 20, 0, Nets.RUN);
        x.arc(2, 0, 20, 0, Nets.RUN);
        x.arc(0, 1, 200, 1, Nets.TRACK);
        x.pair(3, 0);
        dueBest("20 and 40, then 180, 200 and 220", x, 660, 0, 0);
        Check.due("nothing is done", 0, x.decide());
        x.live(1, false);
        dueBest("without the ring: 20 and 70, twice", x, 180, 16, 2);
        Check.due("done", 2, x.decide());
        Check.due("and now the way of the ring", Check.STATE, Answers.of(x, "live", 1, true));
    }

    /** The same: two that may both be LIVE, but not together. */
    private static void ringOfTwoChoices() {
        MaxplusJunction x = Nets.many(2);
        x.horizon(1);
        x.arc(0, 1, 5, 0, Nets.CONNECTION);
        x.riders(0, 20, true);
        x.live(0, false);
        x.arc(1, 0, 5, 0, Nets.CONNECTION);
        x.riders(1, 10, true);
        dueBest("the one with more riders is live", x, 600 + 5, 2, 2);
        x.riders(1, 20, true);
        dueBest("as many: it stays", x, 1200 + 5, 1, 0);
        x.live(1, false);
        dueBest("either one: the second one is broken still", x, 1200 + 5, 1, 1);
        x.riders(0, 0, true);
        x.riders(1, 0, true);
        dueBest("none rides: both stay broken", x, 0, 3, 0);
    }

    /** "the BEST one has the least COST": by a single minute. */
    private static void leastCostByOneMinute() {
        for (int time = 59; time <= 61; time++) {
            MaxplusJunction x = star(1, time);
            x.riders(0, 1, true);
            boolean isBroken = time > 60;
            dueBest(time + " against 60 of a live one", x, Math.min(time, 60), isBroken ? 1 : 0, isBroken ? 1 : 0);
            x.live(0, false);
            boolean staysBroken = time >= 60;
            dueBest(time + " against 60 of a broken one", x, Math.min(time, 60),
                    staysBroken ? 1 : 0, staysBroken ? 0 : 1);
        }
    }

    /** "of several that in which the fewest ARCS change": ahead of the smallest number. */
    private static void fewestChanges() {
        for (int live = 0; live < 16; live++) {
            MaxplusJunction x = Nets.many(1);
            for (int number = 0; number < 4; number++) {
                x.arc(0, 0, 1, 2, Nets.CONNECTION);
                x.riders(number, 0, true);
                x.live(number, (live >> number & 1) == 1);
            }
            dueBest("all cost nothing", x, 0, 15 - live, 0);
        }
        MaxplusJunction y = Nets.many(1);
        y.arc(0, 0, 1, 1, Nets.TRACK);
        y.arc(0, 0, 1, 1, Nets.TRACK);
        y.pair(0, 1);
        dueBest("the first one stays", y, 0, 0, 0);
        y.live(1, true);
        dueBest("the second one stays", y, 0, 16, 0);
    }

    /** "then the one with the smallest number" */
    private static void smallestNumberOfConnections() {
        MaxplusJunction x = Nets.of(120);
        x.horizon(1);
        for (int number = 1; number < 5; number++) {
            x.departure(0, 0, 0);
        }
        // A way through four connections, of which any one can be broken so that the last one is not late.
        for (int number = 0; number < 4; number++) {
            x.arc(1 + number, number < 3 ? 2 + number : 0, 40, 0, Nets.CONNECTION);
            x.riders(number, 0, true);
        }
        dueBest("any one of the four", x, 0, 1, 1);
        x.riders(0, 1, true);
        dueBest("any one of the last three", x, 0, 2, 1);
        x.riders(1, 1, true);
        dueBest("any one of the last two", x, 0, 4, 1);
        x.riders(2, 1, true);
        dueBest("the last one", x, 0, 8, 1);
        x.riders(3, 1, true);
        dueBest("40 minutes are less than 60", x, 40, 0, 0);
    }

    /** The same: 3 for two CONNECTIONS is less than 16 for a PAIR, and each of them changes two ARCS. */
    private static void smallestNumberOfConnectionsAndPairs() {
        MaxplusJunction x = new MaxplusJunction();
        x.departure(0, 0, 0);
        x.departure(0, 0, 0);
        x.departure(0, 50, 1);
        x.horizon(1);
        x.arc(1, 2, 50, 0, Nets.TRACK);
        x.arc(1, 2, 1, 0, Nets.TRACK);
        x.pair(0, 1);
        x.arc(0, 1, 49, 0, Nets.CONNECTION);
        x.arc(0, 1, 49, 0, Nets.CONNECTION);
        x.riders(2, 0, true);
        x.riders(3, 0, true);
        dueBest("both connections", x, 0, 3, 2);
        x.riders(2, 1, true);
        dueBest("the pair", x, 0, 16, 2);
        x.riders(2, 0, true);
        x.live(2, false);
        dueBest("the other connection alone", x, 0, 3, 1);
    }

    /** "Does the BEST CHOICE. Returns how many ARCS changed between LIVE and BROKEN." */
    private static void doneOnce() {
        for (int seed = 0; seed < 100; seed += 3) {
            MaxplusJunction x = new MaxplusJunction();
            int arcs = x.lay(4, seed);
            for (int arc = arcs - 3; arc < arcs; arc++) {
                x.riders(arc, 1 + seed % 3, true);
            }
            x.arc(0, 2, 40, 1, Nets.TRACK);
            x.arc(2, 0, 40, 1, Nets.TRACK);
            x.pair(arcs, arcs + 1);
            x.storm(seed, 100);
            int cost = x.best(0);
            int number = x.best(1);
            int changes = x.best(2);
            Check.due("no more than it costs now", true, cost <= x.day(0));
            Check.due("seed " + seed + ", changed", changes, x.decide());
            Check.due("seed " + seed + ", cost then", cost, x.day(0));
            dueBest("seed " + seed + ", then", x, cost, number, 0);
            Check.due("seed " + seed + ", once more", 0, x.decide());
        }
    }

    /** "what would be (nothing is changed)" */
    private static void askingChangesNothing() {
        Answers.Maker net = ChoiceEdgesTest::fourOfSix;
        for (int what = 0; what < 3; what++) {
            int its = what;
            Check.unchanged("best(" + what + ")", net, x -> x.best(its));
        }
        Check.due("the best one breaks none for 180", 600, net.make().best(0));
        Check.dueEach(net.make(), "best", NOTHING, 600, 0, 0);
    }
}
