/**
 * What stands ahead of the parts of the document's "Description", a method for each sentence, in the
 * order in which they stand. The parts follow in Part1Test to Part6Test.
 */
public final class Part0Test {
    private static final Object[] NOTHING = {};

    public static void main(String[] args) {
        usedFor512Calls();
        wholeNumbersRoundedDown();
        noneIsMinusOne();
        setsAreSums();
        byRisingNumbers();
        theSmallestNumber();
        whatThrowsChangesNothing();
        theFirstOneNamed();
        Check.end("Part0Test");
    }

    /** DEPARTURES of the LINES 0 to 2, ARCS of each KIND, one of them BROKEN, a PAIR, and LATENESS. */
    private static MaxplusJunction small() {
        MaxplusJunction x = new MaxplusJunction();
        x.departure(0, 5, 1);
        x.departure(1, 20, 2);
        x.departure(2, 41, 3);
        x.arc(0, 1, 12, 0, Nets.RUN);
        x.arc(1, 2, 15, 0, Nets.CONNECTION);
        x.arc(2, 0, 20, 1, Nets.STOCK);
        x.arc(0, 2, 9, 1, Nets.TRACK);
        x.arc(0, 2, 10, 1, Nets.TRACK);
        x.arc(1, 0, 9, 2, Nets.TRACK);
        x.arc(0, 0, 8, 1, Nets.RUN);
        x.riders(1, 7, true);
        x.pair(3, 4);
        x.live(6, false);
        x.delay(0, 1, 30);
        x.delay(1, 2, 8);
        return x;
    }

    /** "An object is used for at most 512 calls after it has been made; what later calls answer is free." */
    private static void usedFor512Calls() {
        MaxplusJunction x = new MaxplusJunction();
        int before = 60;
        for (int call = 1; call <= 512; call++) {
            Check.due("call " + call, before, x.period(call % 500 + 1));
            before = call % 500 + 1;
        }
    }

    /** "All numbers are whole; what is divided is rounded down, where no fraction is named." */
    private static void wholeNumbersRoundedDown() {
        MaxplusJunction x = Nets.of(0);
        x.arc(0, 0, 91, 2, Nets.RUN);
        Check.due("a fraction is named, above", 91, x.rings(0));
        Check.due("a fraction is named, under", 2, x.rings(1));
        int[][] margins = {{60, 14}, {46, 0}, {45, -1}, {44, -2}, {1, -45}};
        for (int[] each : margins) {
            x.period(each[0]);
            Check.due(each[0] + " less 91 / 2", each[1], x.rings(2));
        }
    }

    /** "NONE is -1." All that can be NONE is so here. */
    private static void noneIsMinusOne() {
        MaxplusJunction x = Nets.of(0, 0);
        x.arc(0, 1, 50, 2, Nets.TRACK);
        Check.due("without a pair", -1, x.ofArc(0, 9));
        Check.due("without a way", -1, x.healing(1, 0));
        Check.due("without a way of one arc", -1, x.power(1, 0, 1));
        Check.due("without a way of no arc", -1, x.power(1, 0, 0));
        Check.due("the departure of no root", -1, x.at(0, 0, 4));
        Check.due("the turn of no root", -1, x.at(0, 0, 5));
        Check.due("without a ride", -1, x.ride(0, 0, 1));
        Check.due("none makes it less", -1, x.heals(9));
        x.arc(0, 0, 90, 1, Nets.RUN);
        Check.due("it does not hold", -1, x.healing(0, 1));
        Check.due("it can not be by 89", -1, x.wouldMake(89));
        Check.due("it can not be by 60", -1, x.make());
    }

    /** "A set is the sum of 2^k for the numbers k in it." */
    private static void setsAreSums() {
        MaxplusJunction x = Nets.many(14);
        Check.due("none", 0, x.rings(5));
        x.arc(0, 0, 9, 1, Nets.RUN);
        Check.due("0", 1, x.rings(5));
        x.arc(5, 5, 9, 1, Nets.RUN);
        Check.due("0 and 5", 33, x.rings(5));
        x.arc(13, 13, 9, 1, Nets.RUN);
        Check.due("0, 5 and 13", 8225, x.rings(5));
        Check.due("13 alone", 8192, x.feels(13, 51));
        x.arc(13, 2, 9, 1, Nets.RUN);
        Check.due("2 and 13", 8196, x.feels(13, 52));
    }

    /**
     * "X by X is by rising numbers; where one of several is taken and nothing else is said, it is that with
     * the smallest number." The first half: storm() goes TURN by TURN, DEPARTURE by DEPARTURE (of seed 21 it
     * draws 20, then 80 and 96 with it, then 40 and 10 with it, then 2, 30 and 45), digest() through all.
     */
    private static void byRisingNumbers() {
        MaxplusJunction x = Nets.of(0, 3);
        x.horizon(3);
        Check.due("together", 106, x.storm(21, 100));
        int[][] want = {{0, 96}, {10, 0}, {0, 0}};
        for (int turn = 0; turn < 3; turn++) {
            for (int departure = 0; departure < 2; departure++) {
                Check.due("lateness of " + departure + " at " + turn, want[turn][departure], x.at(departure, turn, 3));
            }
        }
        Check.due("the digest", digestOf(small(), 3, 7), small().digest());
    }

    private static long digestOf(MaxplusJunction x, int departures, int arcs) {
        long d = 58285L * 31 + 60;
        for (int what = 0; what <= 6; what++) {
            d = d * 31 + x.rings(what);
        }
        for (int what = 0; what <= 7; what++) {
            d = d * 31 + x.day(what);
        }
        for (int departure = 0; departure < departures; departure++) {
            for (int what = 0; what <= 7; what++) {
                d = d * 31 + x.ofDeparture(departure, what);
            }
            d = d * 31 + x.free(departure, 5);
            d = d * 31 + x.healing(departure, 0);
            for (int turn = 0; turn < x.day(5); turn++) {
                d = d * 31 + x.at(departure, turn, 1);
                d = d * 31 + x.at(departure, turn, 4);
                d = d * 31 + x.at(departure, turn, 5);
            }
        }
        for (int arc = 0; arc < arcs; arc++) {
            d = d * 31 + x.ofArc(arc, 6);
            d = d * 31 + x.ofArc(arc, 7);
            d = d * 31 + x.ofArc(arc, 9);
        }
        for (int line = 0; line < 6; line++) {
            for (int what = 0; what <= 3; what++) {
                d = d * 31 + x.ofLine(line, what);
            }
        }
        return d * 31 + (x.isSound() ? 1 : 0);
    }

    /** The second half: of ARCS by which LATE would become the same, heals() takes the first one told. */
    private static void theSmallestNumber() {
        MaxplusJunction x = Nets.of(0, 10, 20);
        x.horizon(1);
        x.arc(2, 0, 5, 1, Nets.RUN);
        x.arc(1, 2, 10, 0, Nets.RUN);
        x.arc(0, 1, 10, 0, Nets.RUN);
        x.delay(0, 0, 6);
        x.delay(1, 0, 6);
        Check.due("only arc 1 makes it less", 1, x.heals(6));
        x.arc(1, 2, 10, 0, Nets.RUN);
        Check.due("arc 3 comes to just the same as arc 1", -1, x.heals(6));
        x.departure(0, 20, 1);
        x.arc(1, 3, 10, 0, Nets.RUN);
        x.live(3, false);
        Check.due("arcs 1 and 4 make it less by 6 each", 1, x.heals(6));
        x.live(1, false);
        x.live(3, true);
        Check.due("arcs 3 and 4 do", 3, x.heals(6));
    }

    /** "A method that throws an exception changes nothing." Each method that can throw, by each exception. */
    private static void whatThrowsChangesNothing() {
        throwsAll(Check.ARGUMENT, new Object[][] {{"period", 501}, {"departure", 6, 0, 0}, {"move", 1, 1000},
            {"arc", 0, 1, 301, 1, 0}, {"riders", 1, 100, false}, {"pair", 5, 5}, {"lay", 5, 0}, {"horizon", 13},
            {"delay", 0, 0, 501}, {"storm", 100, 1}, {"ofDeparture", 0, 8}, {"ofArc", 0, 10}, {"rings", 7},
            {"feels", 0, 501}, {"free", 0, 31}, {"power", 0, 1, 31}, {"at", 0, 0, 6}, {"day", 8},
            {"ofLine", 0, 4}, {"crews", 101}, {"best", 3}, {"wave", 0, 0, 501}, {"wouldMake", 0}, {"heals", 0}});
        throwsAll(Check.INDEX, new Object[][] {{"move", 3, 9}, {"arc", 0, 3, 9, 1, 0}, {"riders", 7, 9, false},
            {"pair", 5, 7}, {"live", 7, false}, {"delay", 0, 6, 9}, {"ofDeparture", 3, 0}, {"ofArc", 7, 0},
            {"healing", 3, 0}, {"feels", 3, 9}, {"free", 3, 0}, {"power", 0, 3, 1}, {"at", 0, 6, 0}, {"board", 3},
            {"ride", 0, 6, 1}, {"ofLine", 6, 0}, {"without", 7}, {"wave", 3, 0, 9}});
        throwsAll(Check.STATE, new Object[][] {{"arc", 1, 0, 9, 0, 0}, {"riders", 0, 9, true}, {"pair", 5, 4},
            {"lay", 2, 3}});
        Answers.Maker ring = () -> {
            MaxplusJunction x = small();
            x.live(0, false);
            x.arc(1, 0, 9, 0, Nets.RUN);
            return x;
        };
        Check.refused("live, by a ring", Check.STATE, ring, x -> x.live(0, true));
        Answers.Maker nothing = MaxplusJunction::new;
        Check.refused("make, of nothing", Check.STATE, nothing, x -> x.make());
        Check.refused("wouldMake, of nothing", Check.STATE, nothing, x -> x.wouldMake(9));
        Answers.Maker full = () -> Nets.many(14);
        Check.refused("a fifteenth departure", Check.STATE, full, x -> x.departure(1, 2, 3));
    }

    private static void throwsAll(String exception, Object[][] calls) {
        for (Object[] call : calls) {
            String name = (String) call[0];
            Object[] args = java.util.Arrays.copyOfRange(call, 1, call.length);
            Check.refused(name + java.util.Arrays.toString(args), exception, Part0Test::small,
                    x -> Answers.of(x, name, args));
        }
    }

    /** "If several exceptions apply, the one that is named first is thrown." */
    private static void theFirstOneNamed() {
        throwsAll(Check.INDEX, new Object[][] {{"move", 3, 1000}, {"arc", 0, 3, 301, 3, 4}, {"riders", 7, 100, true},
            {"pair", 7, 7}, {"delay", 3, 0, 501}, {"ofDeparture", 3, 8}, {"ofArc", 7, 10}, {"feels", 3, 0},
            {"free", 3, 31}, {"power", 3, 0, 31}, {"at", 0, 6, 6}, {"ofLine", 6, 4}, {"wave", 0, 6, 501}});
        throwsAll(Check.ARGUMENT, new Object[][] {{"arc", 1, 0, 0, 0, 0}, {"riders", 0, 100, true}, {"pair", 0, 0},
            {"lay", 0, 0}});
        Answers.Maker full = () -> Nets.many(14);
        Check.refused("departure, of a full net", Check.ARGUMENT, full, x -> x.departure(6, 0, 0));
        Answers.Maker nothing = MaxplusJunction::new;
        Check.refused("wouldMake, of nothing", Check.ARGUMENT, nothing, x -> x.wouldMake(501));
    }
}
