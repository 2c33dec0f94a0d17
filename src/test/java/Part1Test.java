/** "1. The net": a method for each sentence of this part of the document's "Description". */
public final class Part1Test {
    public static void main(String[] args) {
        period();
        departures();
        plan();
        arcs();
        kinds();
        notAhead();
        riders();
        liveOrBroken();
        neverARing();
        oneAtMostIsLive();
        pairs();
        Check.end("Part1Test");
    }

    /** "PERIOD is 1 to 500 (60 at first)." */
    private static void period() {
        MaxplusJunction x = Nets.of(0);
        Check.due("the plan of turn 1 at first", 60, x.at(0, 1, 0));
        Check.due("at first", 60, x.period(1));
        Check.due("the least one", 1, x.at(0, 1, 0));
        Check.due("the one before", 1, x.period(500));
        Check.due("the greatest one", 500, x.at(0, 1, 0));
        for (int period : new int[] {0, 501, -60}) {
            Check.refused("period " + period, Check.ARGUMENT, x, () -> x.period(period));
        }
    }

    /**
     * "DEPARTURES: at most 14, numbered from 0, each of a LINE (0 to 5), with an OFFSET (0 to 999; 0 at first)
     * and a WEIGHT (0 to 99; 1 at first)."
     */
    private static void departures() {
        MaxplusJunction x = new MaxplusJunction();
        int[][] told = {{0, 0, 0}, {5, 999, 99}, {1, 0, 1}, {2, 60, 7}, {3, 500, 50}, {4, 998, 98}, {0, 1, 2},
            {5, 0, 0}, {5, 1, 1}, {5, 2, 2}, {5, 3, 3}, {5, 4, 4}, {5, 5, 5}, {0, 999, 0}};
        for (int number = 0; number < told.length; number++) {
            int[] each = told[number];
            for (int[] wrong : new int[][] {{-1, 0, 1}, {6, 0, 1}, {0, -1, 1}, {0, 1000, 1}, {0, 0, -1}, {0, 0, 100}}) {
                Check.refused("departure " + wrong[0] + " " + wrong[1] + " " + wrong[2], Check.ARGUMENT, x,
                        () -> x.departure(wrong[0], wrong[1], wrong[2]));
            }
            Check.due("its number", number, x.departure(each[0], each[1], each[2]));
        }
        Check.refused("a fifteenth one", Check.STATE, x, () -> x.departure(0, 0, 1));
        for (int number = 0; number < told.length; number++) {
            Check.dueEach(x, "ofDeparture", new Object[] {number}, told[number]);
        }
    }

    /**
     * "Each comes again and again: its TURNS are numbered from 0; the PLAN of its TURN k is OFFSET and k *
     * PERIOD together."
     */
    private static void plan() {
        MaxplusJunction x = Nets.of(7, 999);
        x.period(25);
        x.horizon(12);
        for (int departure = 0; departure < 2; departure++) {
            int number = departure;
            Check.refused("turn -1", Check.INDEX, x, () -> x.at(number, -1, 0));
            for (int turn = 0; turn < 12; turn++) {
                int want = (departure == 0 ? 7 : 999) + turn * 25;
                Check.due("plan of turn " + turn, want, x.at(departure, turn, 0));
            }
            Check.refused("turn 12", Check.INDEX, x, () -> x.at(number, 12, 0));
        }
        x.delay(0, 3, 40);
        Check.due("plan, whatever is late", 82, x.at(0, 3, 0));
    }

    /**
     * "ARCS: at most 36, numbered from 0, each from a DEPARTURE to a DEPARTURE, with a TIME (1 to 300), a SHIFT
     * (0 to 2) and a KIND: 0 RUN, 1 STOCK, 2 CONNECTION, 3 TRACK."
     */
    private static void arcs() {
        MaxplusJunction x = Nets.of(0, 0, 0);
        for (int[] wrong : new int[][] {{0, 0, 0}, {301, 0, 0}, {9, -1, 0}, {9, 3, 0}, {9, 0, -1}, {9, 0, 4}}) {
            Check.refused("arc " + wrong[0] + " " + wrong[1] + " " + wrong[2], Check.ARGUMENT, x,
                    () -> x.arc(0, 1, wrong[0], wrong[1], wrong[2]));
        }
        for (int[] wrong : new int[][] {{-1, 0}, {3, 0}, {0, -1}, {0, 3}}) {
            Check.refused("from " + wrong[0] + " to " + wrong[1], Check.INDEX, x,
                    () -> x.arc(wrong[0], wrong[1], 9, 1, 0));
        }
        for (int number = 0; number < 36; number++) {
            int from = number % 3;
            int to = number == 35 ? 2 : (number + 1) % 3;
            int time = number == 0 ? 1 : number == 35 ? 300 : 8 * number;
            Check.due("its number", number, x.arc(from, to, time, 1 + number % 2, number % 4));
            Check.dueEach(x, "ofArc", new Object[] {number}, from, to, time, 1 + number % 2, number % 4);
        }
        Check.refused("a thirty-seventh one", Check.STATE, x, () -> x.arc(0, 1, 9, 1, 0));
    }

    /**
     * What each KIND can do: a RUN is worked and ridden, a CONNECTION has RIDERS and is ridden, a TRACK can
     * be in a PAIR.
     */
    private static void kinds() {
        for (int kind = 0; kind < 4; kind++) {
            int itsKind = kind;
            Answers.Maker net = () -> {
                MaxplusJunction y = Nets.of(0, 20);
                y.arc(0, 1, 10, 0, itsKind);
                y.arc(0, 1, 10, 0, Nets.TRACK);
                return y;
            };
            MaxplusJunction x = net.make();
            Check.due("rides", kind == 0 || kind == 2 ? 20 : -1, x.ride(0, 0, 1));
            Check.due("crews", kind == 0 ? 6 : 0, x.crews(0));
            if (kind == 2) {
                Check.due("riders", 1, x.riders(0, 9, true));
            } else {
                Check.refused("riders", Check.STATE, net, y -> y.riders(0, 9, true));
            }
            if (kind == 3) {
                Check.due("pair", 0, x.pair(0, 1));
            } else {
                Check.refused("pair", Check.STATE, net, y -> y.pair(0, 1));
                Check.refused("pair, the other way round", Check.STATE, net, y -> y.pair(1, 0));
            }
        }
    }

    /**
     * "By it the TURN k of the second one can not be ahead of the TURN k - SHIFT of the first one and TIME
     * together (it does not matter, if k - SHIFT is below 0)."
     */
    private static void notAhead() {
        String[] boards = {"25+25 35+25 45+25 55+25", "0 25+15 35+15 45+15", "0 10 25+5 35+5"};
        for (int shift = 0; shift <= 2; shift++) {
            for (int kind = 0; kind < 4; kind++) {
                MaxplusJunction x = Nets.of(0, 0);
                x.period(10);
                x.horizon(4);
                x.arc(0, 1, 25, shift, kind);
                Check.due("the second one, by a shift of " + shift, boards[shift], x.board(1));
                Check.due("the first one", "0 10 20 30", x.board(0));
            }
        }
        MaxplusJunction x = Nets.of(0, 30);
        x.period(10);
        x.horizon(3);
        x.arc(0, 1, 25, 0, Nets.RUN);
        Check.due("it may be later", "30 40 50", x.board(1));
        x.delay(0, 1, 10);
        Check.due("a minute less than that does not matter, five do", "30 45+5 50", x.board(1));
    }

    /** "A CONNECTION has RIDERS (0 to 99; 0 at first)." */
    private static void riders() {
        MaxplusJunction x = Nets.of(0, 50);
        x.horizon(2);
        x.arc(0, 1, 10, 0, Nets.CONNECTION);
        Check.due("at first", 0, x.ofArc(0, 5));
        Check.due("cost without it at first", 0, x.without(0));
        for (int riders : new int[] {99, 1, 0}) {
            x.riders(0, riders, false);
            Check.due("riders", riders, x.ofArc(0, 5));
            Check.due("cost without it", riders * 120, x.without(0));
        }
        for (int riders : new int[] {-1, 100}) {
            Check.refused("riders " + riders, Check.ARGUMENT, x, () -> x.riders(0, riders, false));
        }
    }

    /** "An ARC is LIVE (at first), or BROKEN." */
    private static void liveOrBroken() {
        MaxplusJunction x = Nets.of(0, 0);
        x.horizon(1);
        for (int kind = 0; kind < 4; kind++) {
            x.arc(0, 1, 10 + kind, 0, kind);
            Check.due("live at first", 1, x.ofArc(kind, 6));
        }
        boolean[] told = {true, false, false, true, true, false};
        boolean before = true;
        for (boolean isLive : told) {
            Check.due("whether it was", before, x.live(3, isLive));
            Check.due("whether it is", isLive ? 1 : 0, x.ofArc(3, 6));
            Check.due("how many are broken", isLive ? 0 : 1, x.day(6));
            Check.due("how many live ones come", isLive ? 4 : 3, x.ofDeparture(1, 3));
            Check.due("late by the live ones", isLive ? 13 : 12, x.day(1));
            before = isLive;
        }
    }

    /** "LIVE ARCS with a SHIFT of 0 never make a ring (also not one alone); what would make one is refused." */
    private static void neverARing() {
        Answers.Maker net = () -> {
            MaxplusJunction x = Nets.of(0, 0, 0);
            x.arc(0, 1, 5, 0, Nets.RUN);
            x.arc(1, 2, 5, 0, Nets.TRACK);
            return x;
        };
        for (int[] ends : new int[][] {{0, 0}, {1, 1}, {2, 2}, {1, 0}, {2, 1}, {2, 0}}) {
            for (int kind = 0; kind < 4; kind++) {
                int itsKind = kind;
                Check.refused("from " + ends[0] + " to " + ends[1], Check.STATE, net,
                        x -> x.arc(ends[0], ends[1], 5, 0, itsKind));
            }
            for (int shift = 1; shift <= 2; shift++) {
                Check.due("a ring with a shift", 2, net.make().arc(ends[0], ends[1], 5, shift, 0));
            }
        }
        Check.due("no ring", 2, net.make().arc(0, 2, 5, 0, 0));
        Answers.Maker broken = () -> {
            MaxplusJunction x = net.make();
            x.live(0, false);
            x.arc(2, 0, 5, 0, Nets.RUN);
            return x;
        };
        Check.due("no ring by a broken one", 3, broken.make().day(6) + broken.make().ofArc(2, 0));
        Check.refused("live again", Check.STATE, broken, x -> x.live(0, true));
        MaxplusJunction y = broken.make();
        y.live(1, false);
        Check.due("live again, as another one is broken", false, y.live(0, true));
    }

    /**
     * "A PAIR: two ARCS of the KIND 3, of which one at most is LIVE: as the one becomes LIVE, the other one
     * is BROKEN."
     */
    private static void oneAtMostIsLive() {
        MaxplusJunction x = Nets.of(0, 0);
        x.arc(0, 1, 5, 0, Nets.TRACK);
        x.live(0, false);
        x.arc(1, 0, 5, 0, Nets.TRACK);
        x.pair(0, 1);
        dueLive("as they were", x, 0, 1);
        Check.due("the first one, though both would make a ring", false, x.live(0, true));
        dueLive("the first one", x, 1, 0);
        Check.due("it is already", true, x.live(0, true));
        dueLive("the first one still", x, 1, 0);
        Check.due("the other one is broken already", false, x.live(1, false));
        dueLive("the first one as before", x, 1, 0);
        Check.due("the second one", false, x.live(1, true));
        dueLive("the second one", x, 0, 1);
        Check.due("none", true, x.live(1, false));
        dueLive("none", x, 0, 0);
        Check.due("the second one of none", false, x.live(1, true));
        dueLive("the second one of none", x, 0, 1);
        MaxplusJunction y = Nets.of(0, 0);
        y.arc(0, 1, 5, 0, Nets.TRACK);
        y.arc(0, 1, 5, 0, Nets.TRACK);
        y.pair(1, 0);
        dueLive("if both are, the second one of the two is broken", y, 0, 1);
    }

    private static void dueLive(String what, MaxplusJunction x, int one, int other) {
        Check.due(what + ", arc 0", one, x.ofArc(0, 6));
        Check.due(what + ", arc 1", other, x.ofArc(1, 6));
    }

    /** "PAIRS: at most 3, numbered from 0; no ARC is in two." */
    private static void pairs() {
        MaxplusJunction x = Nets.of(0, 0);
        for (int arc = 0; arc < 8; arc++) {
            x.arc(0, 1, 5, 1, Nets.TRACK);
        }
        for (int number = 0; number < 3; number++) {
            int one = 2 * number;
            Check.due("its number", number, x.pair(one, one + 1));
            Check.due("the other one", one + 1, x.ofArc(one, 9));
            Check.due("the other one of that", one, x.ofArc(one + 1, 9));
            for (int arc = 0; arc <= one + 1; arc++) {
                int paired = arc;
                Check.refused("in two", Check.STATE, x, () -> x.pair(paired, 7));
                Check.refused("in two, too", Check.STATE, x, () -> x.pair(7, paired));
            }
        }
        Check.refused("a fourth one", Check.STATE, x, () -> x.pair(6, 7));
    }
}
