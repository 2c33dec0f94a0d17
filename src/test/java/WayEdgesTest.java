/** The edges that the document names of FREE times (promise 21) and of ways by so many ARCS (22), a sentence each. */
public final class WayEdgesTest {
    public static void main(String[] args) {
        freeIs0AtLeast();
        freeOfTurnsBelowZero();
        freeOfTheLastTurn();
        freeOfTheLongestWays();
        freeTakesTheGreatest();
        freeIsOfTheNetAlone();
        powerOfNoSteps();
        powerOfThirtySteps();
        powerWithoutAWay();
        powerOfJustSoManySteps();
        powerTakesTheGreatest();
        powerWithoutPeriodAndShift();
        Check.end("WayEdgesTest");
    }

    private static void dueFree(String what, MaxplusJunction x, int departure, int... want) {
        for (int turn = 0; turn < want.length; turn++) {
            Check.due(what + ", turn " + turn, want[turn], x.free(departure, turn));
        }
    }

    /** "the greatest of 0 and ..": 0 where no ARC comes. */
    private static void freeIs0AtLeast() {
        MaxplusJunction x = Nets.of(999, 500);
        dueFree("without arcs", x, 0, 0, 0, 0, 0, 0, 0, 0);
        Check.due("turn 30", 0, x.free(1, 30));
        x.arc(0, 1, 300, 0, Nets.RUN);
        dueFree("where none comes", x, 0, 0, 0, 0);
        dueFree("where one comes", x, 1, 300, 300, 300);
        x.live(0, false);
        dueFree("where one is broken", x, 1, 0, 0, 0);
    }

    /** "(with k - SHIFT of 0 or more)" */
    private static void freeOfTurnsBelowZero() {
        int[][] want = {{7, 7, 7, 7}, {0, 7, 7, 7}, {0, 0, 7, 7}};
        int[][] round = {{}, {0, 9, 18, 27, 36}, {0, 0, 9, 9, 18, 18, 27}};
        for (int shift = 0; shift < 3; shift++) {
            for (int kind = 0; kind < 4; kind++) {
                MaxplusJunction x = Nets.many(2);
                x.arc(0, 1, 7, shift, kind);
                dueFree("shift " + shift, x, 1, want[shift]);
                if (shift > 0) {
                    x.arc(0, 0, 9, shift, kind);
                    dueFree("back to itself by " + shift, x, 0, round[shift]);
                }
            }
        }
    }

    /** "turn is not 0 to 30": 30, which is no TURN of any DAY. */
    private static void freeOfTheLastTurn() {
        MaxplusJunction x = Nets.many(14);
        x.horizon(1);
        x.arc(13, 13, 300, 1, Nets.RUN);
        Check.due("30 * 300", 9000, x.free(13, 30));
        Check.due("29 * 300", 8700, x.free(13, 29));
        x.arc(12, 12, 300, 2, Nets.RUN);
        Check.due("15 * 300", 4500, x.free(12, 30));
        Check.due("14 * 300", 4200, x.free(12, 29));
    }

    /** As far as TIMES can add up. */
    private static void freeOfTheLongestWays() {
        MaxplusJunction x = Nets.chain(14, 300);
        x.arc(13, 0, 300, 1, Nets.STOCK);
        Check.due("first", 0, x.free(0, 0));
        Check.due("last of turn 0", 3900, x.free(13, 0));
        Check.due("first of turn 30", 30 * 4200, x.free(0, 30));
        Check.due("last of turn 30", 30 * 4200 + 3900, x.free(13, 30));
    }

    /** "the greatest of 0 and FREE of the TURN k - SHIFT .. and TIME together, of all LIVE ARCS to it" */
    private static void freeTakesTheGreatest() {
        MaxplusJunction x = Nets.many(4);
        x.arc(0, 3, 20, 0, Nets.RUN);
        x.arc(1, 3, 15, 1, Nets.RUN);
        x.arc(1, 1, 5, 1, Nets.RUN);
        x.arc(2, 3, 21, 2, Nets.RUN);
        dueFree("20, then 21, then 15 and fives", x, 3, 20, 20, 21, 25, 30, 35);
        x.live(0, false);
        dueFree("without the first one", x, 3, 0, 15, 21, 25, 30, 35);
    }

    /** FREE is without OFFSET, PERIOD and LATENESS. */
    private static void freeIsOfTheNetAlone() {
        MaxplusJunction x = Nets.of(700, 300);
        x.arc(0, 1, 10, 1, Nets.RUN);
        x.arc(1, 0, 10, 0, Nets.RUN);
        dueFree("by 60", x, 1, 0, 20, 40, 60);
        x.period(500);
        x.move(0, 0);
        x.delay(0, 0, 500);
        x.horizon(2);
        dueFree("by 500", x, 1, 0, 20, 40, 60);
        dueFree("the first one", x, 0, 10, 30, 50, 70);
    }

    /** "(by none: 0 to itself)"; "NONE without one" */
    private static void powerOfNoSteps() {
        MaxplusJunction x = Nets.chain(14, 300);
        x.arc(0, 0, 300, 1, Nets.RUN);
        for (int from = 0; from < 14; from++) {
            for (int to = 0; to < 14; to++) {
                Check.due("from " + from + " to " + to, from == to ? 0 : Check.NONE, x.power(from, to, 0));
            }
        }
    }

    /** "steps is not 0 to 30": 30, and the greatest sum. */
    private static void powerOfThirtySteps() {
        MaxplusJunction x = Nets.many(14);
        x.arc(13, 13, 300, 2, Nets.RUN);
        Check.due("30 * 300", 9000, x.power(13, 13, 30));
        Check.due("29 * 300", 8700, x.power(13, 13, 29));
        x.arc(13, 0, 1, 0, Nets.RUN);
        Check.due("29 * 300 and 1", 8701, x.power(13, 0, 30));
        Check.due("only the 1", 1, x.power(13, 0, 1));
    }

    /** "NONE without one" */
    private static void powerWithoutAWay() {
        MaxplusJunction x = Nets.chain(14, 10);
        Check.due("13 steps", 130, x.power(0, 13, 13));
        Check.due("14 steps", Check.NONE, x.power(0, 13, 14));
        Check.due("12 steps", Check.NONE, x.power(0, 13, 12));
        Check.due("against the arcs", Check.NONE, x.power(13, 0, 13));
        Check.due("one step to itself", Check.NONE, x.power(5, 5, 1));
        Check.due("no such way of 30", Check.NONE, x.power(0, 1, 30));
        x.live(0, false);
        Check.due("a broken one", Check.NONE, x.power(0, 13, 13));
        Check.due("as far as it goes", 120, x.power(0, 12, 12));
    }

    /** "a way by just so many LIVE ARCS": there and back, as often as it takes. */
    private static void powerOfJustSoManySteps() {
        MaxplusJunction x = Nets.many(3);
        x.arc(0, 1, 10, 0, Nets.RUN);
        x.arc(1, 2, 20, 1, Nets.RUN);
        x.arc(2, 0, 40, 0, Nets.RUN);
        for (int steps = 0; steps <= 30; steps++) {
            int whole = steps / 3 * 70;
            Check.due(steps + " to 0", steps % 3 == 0 ? whole : Check.NONE, x.power(0, 0, steps));
            Check.due(steps + " to 1", steps % 3 == 1 ? whole + 10 : Check.NONE, x.power(0, 1, steps));
            Check.due(steps + " to 2", steps % 3 == 2 ? whole + 30 : Check.NONE, x.power(0, 2, steps));
        }
    }

    /** "the greatest sum of TIMES" */
    private static void powerTakesTheGreatest() {
        MaxplusJunction x = Nets.many(4);
        x.arc(0, 1, 10, 0, Nets.RUN);
        x.arc(0, 1, 12, 0, Nets.RUN);
        x.arc(0, 2, 5, 0, Nets.RUN);
        x.arc(1, 3, 10, 0, Nets.RUN);
        x.arc(2, 3, 16, 0, Nets.RUN);
        Check.due("12 and 10", 22, x.power(0, 3, 2));
        x.arc(2, 3, 18, 0, Nets.RUN);
        Check.due("5 and 18", 23, x.power(0, 3, 2));
        x.live(5, false);
        x.live(1, false);
        Check.due("5 and 16", 21, x.power(0, 3, 2));
        x.live(4, false);
        Check.due("10 and 10", 20, x.power(0, 3, 2));
    }

    /** The sum is of TIMES alone, by all KINDS. */
    private static void powerWithoutPeriodAndShift() {
        for (int kind = 0; kind < 4; kind++) {
            MaxplusJunction x = Nets.of(999, 0);
            x.arc(0, 1, 7, 2, kind);
            x.arc(1, 0, 8, 1, kind);
            x.period(1);
            x.horizon(1);
            Check.due("kind " + kind, 15, x.power(0, 0, 2));
            Check.due("kind " + kind + ", 29 steps", 14 * 15 + 7, x.power(0, 1, 29));
        }
    }
}
