/** The edges that the document names of PAIRS, in section 1 and in promises 7 and 8, a sentence each. */
public final class PairEdgesTest {
    public static void main(String[] args) {
        secondIsBrokenIfBothAreLive();
        notBothLive();
        oneOfBothIsBrokenAsTheOtherBecomesLive();
        bothBrokenIsLeft();
        brokenOnesBecomeLiveOneByOne();
        threePairs();
        noArcIsInTwo();
        kindsThatAreRefused();
        theSameArcTwice();
        swappedTracksMakeNoRing();
        refusedSwapChangesNothing();
        Check.end("PairEdgesTest");
    }

    /** So many TRACKS from 0 to 1. */
    private static MaxplusJunction tracks(int count) {
        MaxplusJunction x = Nets.of(0, 30);
        for (int number = 0; number < count; number++) {
            x.arc(0, 1, 10 + number, 1, Nets.TRACK);
        }
        return x;
    }

    private static void dueLive(String what, MaxplusJunction x, int... want) {
        for (int arc = 0; arc < want.length; arc++) {
            Check.due(what + ": arc " + arc, want[arc], x.ofArc(arc, 6));
        }
    }

    /** "If both are LIVE, the second one is BROKEN then." */
    private static void secondIsBrokenIfBothAreLive() {
        MaxplusJunction x = tracks(2);
        Check.due("the first one first", 0, x.pair(0, 1));
        dueLive("the first one first", x, 1, 0);
        MaxplusJunction y = tracks(2);
        Check.due("the first one last", 0, y.pair(1, 0));
        dueLive("the first one last", y, 0, 1);
        Check.due("how many are broken", 1, y.day(6));
    }

    /** "If both are LIVE ..": otherwise nothing is BROKEN, and nothing becomes LIVE. */
    private static void notBothLive() {
        for (int live = 0; live < 3; live++) {
            MaxplusJunction x = tracks(2);
            x.live(0, live == 1);
            x.live(1, live == 2);
            Check.due("of which " + live + " is live", 0, x.pair(0, 1));
            dueLive("of which " + live + " is live", x, live == 1 ? 1 : 0, live == 2 ? 1 : 0);
            Check.due("the other one of 0", 1, x.ofArc(0, 9));
            Check.due("the other one of 1", 0, x.ofArc(1, 9));
        }
    }

    /** "as the one becomes LIVE, the other one is BROKEN" */
    private static void oneOfBothIsBrokenAsTheOtherBecomesLive() {
        MaxplusJunction x = tracks(4);
        x.pair(0, 2);
        for (int round = 0; round < 3; round++) {
            Check.due("the second one was broken", false, x.live(2, true));
            dueLive("the second one", x, 0, 1, 1, 1);
            Check.due("the second one is live", true, x.live(2, true));
            dueLive("the second one still", x, 0, 1, 1, 1);
            Check.due("the first one was broken", false, x.live(0, true));
            dueLive("the first one", x, 1, 1, 0, 1);
        }
        Check.due("no pair", true, x.live(1, true));
        dueLive("no pair", x, 1, 1, 0, 1);
    }

    /** "of which one at most is LIVE": none is right, too. */
    private static void bothBrokenIsLeft() {
        MaxplusJunction x = tracks(2);
        x.pair(0, 1);
        Check.due("the first one was live", true, x.live(0, false));
        dueLive("none", x, 0, 0);
        Check.due("the second one was broken", false, x.live(1, false));
        dueLive("none still", x, 0, 0);
        Check.due("sound", true, x.isSound());
        Check.due("nothing is changed", 0, x.decide());
        dueLive("none behind decide()", x, 0, 0);
    }

    /** The same: one becomes LIVE where both are BROKEN. */
    private static void brokenOnesBecomeLiveOneByOne() {
        MaxplusJunction x = tracks(2);
        x.live(0, false);
        x.live(1, false);
        x.pair(0, 1);
        Check.due("it was broken", false, x.live(1, true));
        dueLive("the second one", x, 0, 1);
        Check.due("it was live", true, x.live(1, false));
        Check.due("it was broken", false, x.live(0, true));
        dueLive("the first one", x, 1, 0);
    }

    /** "PAIRS: at most 3, numbered from 0"; "or there are 3 PAIRS" */
    private static void threePairs() {
        Answers.Maker net = () -> {
            MaxplusJunction x = tracks(10);
            x.pair(0, 9);
            x.pair(8, 1);
            x.pair(2, 3);
            x.live(9, true);
            x.live(3, true);
            return x;
        };
        MaxplusJunction x = tracks(10);
        Check.due("the first", 0, x.pair(0, 9));
        Check.due("the second", 1, x.pair(8, 1));
        Check.due("the third", 2, x.pair(2, 3));
        Check.refused("a fourth", Check.STATE, net, y -> y.pair(4, 5));
        Check.refused("a fourth the other way round", Check.STATE, net, y -> y.pair(7, 6));
        int[] others = {9, 8, 3, 2, -1, -1, -1, -1, 1, 0};
        for (int arc = 0; arc < 10; arc++) {
            Check.due("the other one of " + arc, others[arc], net.make().ofArc(arc, 9));
        }
        dueLive("of three pairs", x, 1, 0, 1, 0, 1, 1, 1, 1, 1, 0);
        dueLive("two of them swapped", net.make(), 0, 0, 0, 1, 1, 1, 1, 1, 1, 1);
        Check.due("their numbers", 16 + 64, net.make().best(1));
    }

    /** "no ARC is in two"; "or is in a PAIR" */
    private static void noArcIsInTwo() {
        Answers.Maker net = () -> {
            MaxplusJunction x = tracks(4);
            x.pair(1, 2);
            return x;
        };
        Check.refused("its first one first", Check.STATE, net, x -> x.pair(1, 3));
        Check.refused("its first one second", Check.STATE, net, x -> x.pair(3, 1));
        Check.refused("its second one first", Check.STATE, net, x -> x.pair(2, 3));
        Check.refused("its second one second", Check.STATE, net, x -> x.pair(3, 2));
        Check.refused("both of it", Check.STATE, net, x -> x.pair(1, 2));
        Check.refused("both of it the other way round", Check.STATE, net, x -> x.pair(2, 1));
        Check.due("the two that are in none", 1, net.make().pair(0, 3));
    }

    /** "one of both is not of the KIND 3" */
    private static void kindsThatAreRefused() {
        Answers.Maker net = () -> {
            MaxplusJunction x = Nets.of(0, 30);
            for (int kind = 0; kind < 4; kind++) {
                x.arc(0, 1, 10, 1, kind);
                x.arc(0, 1, 10, 1, kind);
            }
            return x;
        };
        for (int one = 0; one < 8; one++) {
            for (int other = 0; other < 8; other++) {
                int first = one;
                int second = other;
                if (one != other && one + other < 13) {
                    Check.refused(one + " and " + other, Check.STATE, net, x -> x.pair(first, second));
                }
            }
        }
        Check.due("6 and 7", 0, net.make().pair(6, 7));
        Check.due("7 and 6", 0, net.make().pair(7, 6));
    }

    /** "IllegalArgumentException if both are the same" */
    private static void theSameArcTwice() {
        Answers.Maker net = () -> tracks(3);
        for (int number = 0; number < 3; number++) {
            int arc = number;
            Check.refused("twice " + arc, Check.ARGUMENT, net, x -> x.pair(arc, arc));
        }
    }

    /** live(): "(the other one of its PAIR is BROKEN then)", so there and back is no ring. */
    private static void swappedTracksMakeNoRing() {
        MaxplusJunction x = Nets.of(0, 0);
        x.arc(0, 1, 7, 0, Nets.TRACK);
        x.live(0, false);
        x.arc(1, 0, 7, 0, Nets.TRACK);
        Check.refused("no pair yet", Check.STATE, x, () -> x.live(0, true));
        x.pair(0, 1);
        Check.due("a pair", false, x.live(0, true));
        dueLive("swapped", x, 1, 0);
        Check.due("0 is ahead", 7, x.at(1, 0, 2));
        Check.due("back", false, x.live(1, true));
        dueLive("swapped back", x, 0, 1);
        Check.due("1 is ahead", 7, x.at(0, 0, 2));
    }

    /** "A method that throws an exception changes nothing": the other one of the PAIR is LIVE still. */
    private static void refusedSwapChangesNothing() {
        for (int broken = 0; broken < 2; broken++) {
            boolean isLive = broken == 0;
            Answers.Maker net = () -> {
                MaxplusJunction x = Nets.of(0, 0, 0);
                x.arc(0, 1, 7, 0, Nets.TRACK);
                x.live(0, false);
                x.arc(1, 2, 7, 0, Nets.RUN);
                x.arc(2, 0, 7, 0, Nets.RUN);
                x.arc(1, 0, 9, 0, Nets.TRACK);
                x.pair(3, 0);
                x.live(3, isLive);
                return x;
            };
            Check.refused("a ring by way of 2", Check.STATE, net, x -> x.live(0, true));
            MaxplusJunction x = net.make();
            Answers.of(x, "live", 0, true);
            dueLive("behind it", x, 0, 1, 1, isLive ? 1 : 0);
        }
    }
}
