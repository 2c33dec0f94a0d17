/**
 * The edges that the document names in section 1 (the net) and in promises 1 to 10, a sentence each. What
 * numbers are taken and refused is in BoundsTest, which exception comes first in FirstNamedTest.
 */
public final class NetEdgesTest {
    public static void main(String[] args) {
        newObject();
        periodAtFirst();
        periodsLeastAndGreatest();
        planOfEachTurn();
        fourteenDepartures();
        linesLeastAndGreatest();
        weightsLeastAndGreatest();
        offsetsLeastAndGreatest();
        thirtySixArcs();
        thirtySixArcsOfWhichSomeAreBroken();
        timesLeastAndGreatest();
        shiftsAndTurnsBelowZero();
        ridersAtFirst();
        ridersGreatest();
        liveAtFirst();
        ringOfOneArc();
        ringOfTwo();
        ringOfAll();
        ringOfBrokenArcs();
        ringByLive();
        Check.end("NetEdgesTest");
    }

    /** "Creates a net without DEPARTURES." */
    private static void newObject() {
        MaxplusJunction x = new MaxplusJunction();
        Object[] none = {};
        Check.dueEach(x, "rings", none, 0, 1, 60, 1, 1, 0, 0);
        Check.dueEach(x, "day", none, 0, 0, 0, 0, 0, 6, 0, 0);
        Check.dueEach(x, "best", none, 0, 0, 0);
        for (int line = 0; line < 6; line++) {
            Check.dueEach(x, "ofLine", new Object[] {line}, 0, 0, 0, 0);
        }
        Check.due("crews of nothing", 0, x.crews(0));
        Check.due("heals of nothing", Check.NONE, x.heals(100));
        Check.due("clear of nothing", 0, x.clear());
        Check.due("storm of nothing", 0, x.storm(99, 100));
        Check.due("decide of nothing", 0, x.decide());
        Check.due("nothing is sound", true, x.isSound());
        Check.refused("make of nothing", Check.STATE, MaxplusJunction::new, y -> y.make());
        Check.refused("wouldMake of nothing", Check.STATE, MaxplusJunction::new, y -> y.wouldMake(60));
    }

    /** "PERIOD is 1 to 500 (60 at first)" */
    private static void periodAtFirst() {
        MaxplusJunction x = Nets.of(7);
        Check.due("period of a new object", 60, new MaxplusJunction().period(1));
        Check.due("plan of turn 0", 7, x.at(0, 0, 0));
        Check.due("plan of turn 1", 67, x.at(0, 1, 0));
        Check.due("plan of turn 5", 307, x.at(0, 5, 0));
    }

    /** "PERIOD is 1 to 500": both ends, and what period() returns. */
    private static void periodsLeastAndGreatest() {
        MaxplusJunction x = Nets.of(999);
        x.horizon(12);
        Check.due("before", 60, x.period(1));
        Check.due("plan of turn 0 by 1", 999, x.at(0, 0, 0));
        Check.due("plan of turn 11 by 1", 1010, x.at(0, 11, 0));
        Check.due("margin by 1", 1, x.rings(2));
        Check.due("before", 1, x.period(500));
        Check.due("plan of turn 11 by 500", 6499, x.at(0, 11, 0));
        Check.due("margin by 500", 500, x.rings(2));
        Check.due("before", 500, x.period(500));
    }

    /** "its TURNS are numbered from 0"; "the PLAN of its TURN k is OFFSET and k * PERIOD together" */
    private static void planOfEachTurn() {
        for (int offset : new int[] {0, 1, 998, 999}) {
            for (int period : new int[] {1, 2, 60, 499, 500}) {
                MaxplusJunction x = Nets.of(offset);
                x.period(period);
                x.horizon(12);
                for (int turn = 0; turn < 12; turn++) {
                    Check.due("plan of turn " + turn, offset + turn * period, x.at(0, turn, 0));
                    Check.due("it begins then", offset + turn * period, x.at(0, turn, 1));
                }
            }
        }
    }

    /** "DEPARTURES: at most 14, numbered from 0"; "IllegalStateException if there are 14" */
    private static void fourteenDepartures() {
        MaxplusJunction x = new MaxplusJunction();
        for (int number = 0; number < 14; number++) {
            Check.due("departure " + number, number, x.departure(number % 6, 10 * number, number));
        }
        Check.due("a fifteenth", Check.STATE, Answers.of(x, "departure", 0, 0, 0));
        for (int number = 0; number < 14; number++) {
            Check.dueEach(x, "ofDeparture", new Object[] {number}, number % 6, 10 * number, number, 0, 0, 0, 0, 0);
        }
        Check.due("of a fifteenth", Check.INDEX, Answers.of(x, "ofDeparture", 14, 0));
        Check.refused("a fifteenth of 14", Check.STATE, () -> Nets.many(14), y -> y.departure(5, 999, 99));
        Check.due("a fourteenth of 13", 13, Nets.many(13).departure(5, 999, 99));
    }

    /** "each of a LINE (0 to 5)" */
    private static void linesLeastAndGreatest() {
        MaxplusJunction x = new MaxplusJunction();
        x.departure(5, 0, 1);
        x.departure(0, 0, 1);
        x.departure(5, 0, 1);
        int[] counts = {1, 0, 0, 0, 0, 2};
        for (int line = 0; line < 6; line++) {
            Check.due("departures of line " + line, counts[line], x.ofLine(line, 0));
        }
        Check.due("line of 0", 5, x.ofDeparture(0, 0));
        Check.due("line of 1", 0, x.ofDeparture(1, 0));
    }

    /** "a WEIGHT (0 to 99 ..)": one of 0 costs nothing, however late it is. */
    private static void weightsLeastAndGreatest() {
        MaxplusJunction x = new MaxplusJunction();
        x.departure(0, 0, 0);
        x.departure(0, 0, 99);
        x.delay(0, 3, 500);
        Check.due("cost of weight 0", 0, x.day(0));
        Check.due("late all the same", 500, x.day(1));
        x.delay(1, 5, 500);
        Check.due("cost of weight 99", 49500, x.day(0));
        Check.due("both weights", 99, x.ofDeparture(0, 2) + x.ofDeparture(1, 2));
    }

    /** "an OFFSET (0 to 999 ..)", by departure() and by move(). */
    private static void offsetsLeastAndGreatest() {
        MaxplusJunction x = Nets.of(0, 999);
        x.arc(0, 1, 300, 0, Nets.RUN);
        x.arc(1, 0, 300, 1, Nets.RUN);
        Check.due("slack from 0 to 999", 699, x.ofArc(0, 7));
        Check.due("slack from 999 to 0", -1239, x.ofArc(1, 7));
        Check.due("moved from 0", 0, x.move(0, 999));
        Check.due("moved from 999", 999, x.move(1, 0));
        Check.due("slack the other way round", -1299, x.ofArc(0, 7));
        Check.due("plan of 999", 999, x.at(0, 0, 0));
        Check.due("plan of 0", 0, x.at(1, 0, 0));
    }

    /** "ARCS: at most 36, numbered from 0"; "IllegalStateException if there are 36" */
    private static void thirtySixArcs() {
        MaxplusJunction x = Nets.of(0, 5);
        for (int number = 0; number < 36; number++) {
            Check.due("arc " + number, number, x.arc(0, 1, 300 - number, number % 3, number % 4));
        }
        Check.due("a 37th", Check.STATE, Answers.of(x, "arc", 0, 1, 1, 1, 0));
        for (int number = 0; number < 36; number++) {
            int slack = 5 + number % 3 * 60 - (300 - number);
            Check.dueEach(x, "ofArc", new Object[] {number}, 0, 1, 300 - number, number % 3, number % 4, 0, 1, slack);
        }
        Check.due("of a 37th", Check.INDEX, Answers.of(x, "ofArc", 36, 0));
        Check.due("all come to 1", 36, x.ofDeparture(1, 3));
        Check.due("all leave 0", 36, x.ofDeparture(0, 4));
    }

    /** The same: one that is BROKEN is there still, and one that was refused is not. */
    private static void thirtySixArcsOfWhichSomeAreBroken() {
        MaxplusJunction x = Nets.of(0, 5);
        for (int number = 0; number < 35; number++) {
            x.arc(0, 1, 10, 0, Nets.RUN);
            x.live(number, false);
        }
        x.live(0, true);
        Check.due("a ring", Check.STATE, Answers.of(x, "arc", 1, 0, 9, 0, 0));
        Check.due("the 36th", 35, x.arc(1, 0, 9, 1, 0));
        Check.due("a 37th", Check.STATE, Answers.of(x, "arc", 0, 1, 9, 1, 0));
        Check.due("how many are broken", 34, x.day(6));
    }

    /** "a TIME (1 to 300)" */
    private static void timesLeastAndGreatest() {
        MaxplusJunction x = Nets.of(0, 0, 0);
        x.arc(0, 1, 1, 0, Nets.RUN);
        x.arc(1, 2, 300, 0, Nets.RUN);
        Check.due("1 later", "1+1 61+1 121+1 181+1 241+1 301+1", x.board(1));
        Check.due("300 later", "301+301 361+301 421+301 481+301 541+301 601+301", x.board(2));
    }

    /** "(it does not matter, if k - SHIFT is below 0)", for each SHIFT. */
    private static void shiftsAndTurnsBelowZero() {
        String[] boards = {"800+800 360+300 420+300 480+300", "0 800+740 360+240 420+240",
            "0 60 800+680 360+180"};
        for (int shift = 0; shift < 3; shift++) {
            for (int kind = 0; kind < 4; kind++) {
                MaxplusJunction x = Nets.of(0, 0);
                x.horizon(4);
                x.arc(0, 1, 300, shift, kind);
                x.delay(0, 0, 500);
                Check.due("shift " + shift + " and kind " + kind, boards[shift], x.board(1));
                Check.due("its slack", shift * 60 - 300, x.ofArc(0, 7));
                x.horizon(shift + 1);
                Check.due("the last turn that it matters to", 800 - 60 * shift, x.at(1, shift, 2));
                if (shift > 0) {
                    x.horizon(shift);
                    Check.due("no turn that it matters to", 0, x.ofDeparture(1, 7));
                }
            }
        }
    }

    /** "A CONNECTION has RIDERS (0 to 99; 0 at first)." */
    private static void ridersAtFirst() {
        MaxplusJunction x = Nets.of(0, 0);
        x.arc(0, 1, 1, 2, Nets.CONNECTION);
        Check.due("riders at first", 0, x.ofArc(0, 5));
        Check.due("it may not be broken at first", 0, x.ofArc(0, 8));
        x.live(0, false);
        Check.due("cost of it broken", 0, x.day(0));
        Check.due("one may be broken", 1, x.riders(0, 0, true));
        Check.due("cost of none that ride", 0, x.day(0));
    }

    /** The same: 99, by the greatest PERIOD and H. */
    private static void ridersGreatest() {
        MaxplusJunction x = Nets.of(0, 0);
        x.arc(0, 1, 1, 2, Nets.CONNECTION);
        x.period(500);
        x.horizon(12);
        Check.due("none may be broken", 0, x.riders(0, 99, false));
        Check.due("riders", 99, x.ofArc(0, 5));
        Check.due("cost of it live", 0, x.day(0));
        x.live(0, false);
        Check.due("cost of it broken", 99 * 500 * 12, x.day(0));
        x.period(1);
        x.horizon(1);
        Check.due("by the least ones", 99, x.day(0));
    }

    /** "An ARC is LIVE (at first), or BROKEN." */
    private static void liveAtFirst() {
        for (int kind = 0; kind < 4; kind++) {
            MaxplusJunction x = Nets.of(0, 0);
            x.arc(0, 1, 1, 1, kind);
            Check.due("at first, kind " + kind, 1, x.ofArc(0, 6));
            Check.due("none is broken", 0, x.day(6));
            Check.due("it was live", true, x.live(0, false));
            Check.due("broken", 0, x.ofArc(0, 6));
            Check.due("one is broken", 1, x.day(6));
            Check.due("it was broken", false, x.live(0, false));
            Check.due("one is broken still", 1, x.day(6));
            Check.due("it was broken", false, x.live(0, true));
            Check.due("live", 1, x.ofArc(0, 6));
            Check.due("it was live", true, x.live(0, true));
            Check.due("none is broken", 0, x.day(6));
        }
    }

    /** "LIVE ARCS with a SHIFT of 0 never make a ring (also not one alone)" */
    private static void ringOfOneArc() {
        for (int departure : new int[] {0, 6, 13}) {
            for (int kind = 0; kind < 4; kind++) {
                int end = departure;
                int its = kind;
                Check.refused("from " + end + " to itself", Check.STATE, () -> Nets.chain(14, 9),
                        x -> x.arc(end, end, 1, 0, its));
                MaxplusJunction x = Nets.chain(14, 9);
                Check.due("with a shift of 1", 13, x.arc(end, end, 1, 1, its));
                Check.due("with a shift of 2", 14, x.arc(end, end, 1, 2, its));
            }
        }
        Check.refused("of the only one", Check.STATE, () -> Nets.of(0), x -> x.arc(0, 0, 300, 0, 0));
    }

    /** "what would make one is refused": there and back, and a third way does not help. */
    private static void ringOfTwo() {
        Answers.Maker net = () -> {
            MaxplusJunction x = Nets.of(0, 50, 99);
            x.arc(0, 1, 5, 0, Nets.STOCK);
            x.arc(0, 1, 5, 1, Nets.STOCK);
            x.arc(2, 1, 5, 0, Nets.TRACK);
            return x;
        };
        Check.refused("back", Check.STATE, net, x -> x.arc(1, 0, 5, 0, Nets.CONNECTION));
        Check.refused("back to the other one", Check.STATE, net, x -> x.arc(1, 2, 5, 0, Nets.RUN));
        Check.due("the same way again", 3, net.make().arc(0, 1, 5, 0, Nets.CONNECTION));
        Check.due("a way between the first ones", 3, net.make().arc(2, 0, 5, 0, Nets.CONNECTION));
        Check.due("back by a shift of 1", 3, net.make().arc(1, 0, 5, 1, Nets.CONNECTION));
        Check.due("back by a shift of 2", 3, net.make().arc(1, 0, 5, 2, Nets.CONNECTION));
    }

    /** The same with as many DEPARTURES as there can be. */
    private static void ringOfAll() {
        Answers.Maker net = () -> Nets.chain(14, 300);
        for (int[] back : new int[][] {{13, 0}, {13, 12}, {1, 0}, {9, 4}}) {
            Check.refused("from " + back[0] + " back to " + back[1], Check.STATE, net,
                    x -> x.arc(back[0], back[1], 1, 0, Nets.TRACK));
            Check.due("on from " + back[1] + " to " + back[0], 13, net.make().arc(back[1], back[0], 1, 0, 0));
        }
        MaxplusJunction x = net.make();
        Check.due("back by a shift of 1", 13, x.arc(13, 0, 300, 1, 0));
        Check.due("the ring's mean", 4200, x.rings(0));
        Check.due("by one shift", 1, x.rings(1));
    }

    /** "LIVE ARCS ..": those that are BROKEN, or have a SHIFT, make no ring of SHIFT 0. */
    private static void ringOfBrokenArcs() {
        MaxplusJunction x = Nets.chain(14, 300);
        x.live(6, false);
        Check.due("back where one is broken", 13, x.arc(13, 0, 1, 0, 0));
        Check.due("before the gap", Check.STATE, Answers.of(x, "arc", 6, 13, 1, 0, 0));
        Check.due("behind the gap", 14, x.arc(7, 4, 1, 0, 0));
        Check.due("the broken one now", Check.STATE, Answers.of(x, "live", 6, true));
        x.live(13, false);
        Check.due("still: 4 to 7, and back to 4", Check.STATE, Answers.of(x, "live", 6, true));
        x.live(14, false);
        Check.due("live again", false, x.live(6, true));
        Check.due("live", 1, x.ofArc(6, 6));
    }

    /** live(): "IllegalStateException if LIVE ARCS with a SHIFT of 0 would make a ring" */
    private static void ringByLive() {
        Answers.Maker net = () -> {
            MaxplusJunction x = Nets.chain(14, 300);
            x.live(0, false);
            x.arc(13, 0, 9, 0, Nets.CONNECTION);
            x.riders(13, 9, true);
            x.arc(0, 5, 9, 1, Nets.TRACK);
            x.arc(0, 5, 9, 1, Nets.TRACK);
            x.pair(14, 15);
            x.live(15, true);
            return x;
        };
        Check.refused("the last arc of a ring", Check.STATE, net, x -> x.live(0, true));
        MaxplusJunction x = net.make();
        Check.due("one that is live stays so", true, x.live(13, true));
        Check.due("one that is broken stays so", false, x.live(0, false));
        Check.due("another one broken", true, x.live(13, false));
        Check.due("the first one live", false, x.live(0, true));
        Check.due("the other one now", Check.STATE, Answers.of(x, "live", 13, true));
    }
}
