/**
 * The edges that the document names of a day (section 3, promises 11 to 14 and 23 to 25), a sentence each.
 */
public final class DayEdgesTest {
    private static final Object[] NOTHING = {};

    public static void main(String[] args) {
        sixTurnsAtFirst();
        oneTurnAndTwelve();
        latenessThatIsGone();
        latenessLeastAndGreatest();
        delayReturnsThatBefore();
        realOfItsOwn();
        realOfAnArc();
        lateByTheLeastMinute();
        clearCountsTurnsWithLateness();
        stormTakesOldLatenessAway();
        stormTurnByTurn();
        stormLeastAndGreatest();
        Check.end("DayEdgesTest");
    }

    private static int turnsTaken(MaxplusJunction x) {
        int turns = 0;
        while (turns < 99 && !Answers.of(x, "at", 0, turns, 0).endsWith("Exception")) {
            turns++;
        }
        return turns;
    }

    /** "(H is 1 to 12; 6 at first)": the TURNS 0 to 5. */
    private static void sixTurnsAtFirst() {
        MaxplusJunction x = Nets.of(0);
        Check.due("H", 6, x.day(5));
        Check.due("turns that there are", 6, turnsTaken(x));
        Check.due("the board", "0 60 120 180 240 300", x.board(0));
        Check.due("what horizon() returns first", 6, x.horizon(6));
    }

    /** The same: 1 and 12. */
    private static void oneTurnAndTwelve() {
        MaxplusJunction x = Nets.of(0);
        Check.due("before 1", 6, x.horizon(1));
        Check.due("H", 1, x.day(5));
        Check.due("turns that there are", 1, turnsTaken(x));
        Check.due("the board", "0", x.board(0));
        Check.due("before 12", 1, x.horizon(12));
        Check.due("H", 12, x.day(5));
        Check.due("turns that there are", 12, turnsTaken(x));
        Check.due("the board", "0 60 120 180 240 300 360 420 480 540 600 660", x.board(0));
        Check.due("before 12 again", 12, x.horizon(12));
    }

    /** "LATENESS of TURNS that are not in the DAY any more is gone": also as the DAY is longer again. */
    private static void latenessThatIsGone() {
        for (int turns = 1; turns <= 12; turns++) {
            MaxplusJunction x = Nets.many(14);
            x.horizon(12);
            for (int turn = 0; turn < 12; turn++) {
                x.delay(0, turn, 1);
                x.delay(13, turn, 100);
            }
            Check.due("before", 12, x.horizon(turns));
            Check.due("lateness of " + turns, 101 * turns, x.day(7));
            x.horizon(12);
            Check.due("lateness of 12 behind " + turns, 101 * turns, x.day(7));
            for (int turn = 0; turn < 12; turn++) {
                Check.due("of 0", turn < turns ? 1 : 0, x.at(0, turn, 3));
                Check.due("of 13", turn < turns ? 100 : 0, x.at(13, turn, 3));
            }
            Check.due("clear", 2 * turns, x.clear());
        }
    }

    /** "a TURN begins no sooner than PLAN and that together", by 0 and by 500. */
    private static void latenessLeastAndGreatest() {
        MaxplusJunction x = Nets.of(999);
        x.horizon(12);
        x.period(500);
        x.delay(0, 11, 500);
        Check.dueEach(x, "at", new Object[] {0, 11}, 6499, 6999, 500, 500, 0, 11);
        Check.dueEach(x, "at", new Object[] {0, 10}, 5999, 5999, 0, 0, -1, -1);
        x.delay(0, 11, 0);
        Check.dueEach(x, "at", new Object[] {0, 11}, 6499, 6499, 0, 0, -1, -1);
        x.delay(0, 0, 1);
        Check.dueEach(x, "at", new Object[] {0, 0}, 999, 1000, 1, 1, 0, 0);
    }

    /** "Returns that before (0)." */
    private static void delayReturnsThatBefore() {
        MaxplusJunction x = Nets.many(2);
        Check.due("at first", 0, x.delay(1, 5, 500));
        Check.due("of another turn", 0, x.delay(1, 4, 3));
        Check.due("of another departure", 0, x.delay(0, 5, 4));
        Check.due("told before", 500, x.delay(1, 5, 500));
        Check.due("told before", 500, x.delay(1, 5, 0));
        Check.due("none before", 0, x.delay(1, 5, 9));
        x.clear();
        Check.due("cleared", 0, x.delay(1, 5, 9));
        Check.due("all together", 9, x.day(7));
    }

    /** "REAL .. is the greatest of its PLAN and LATENESS together, and of ..": its own is greater or as great. */
    private static void realOfItsOwn() {
        MaxplusJunction x = Nets.of(0, 10);
        x.arc(0, 1, 15, 0, Nets.RUN);
        x.horizon(1);
        String[] boards = {"15+5", "15+5", "15+5", "16+6"};
        int[] told = {0, 4, 5, 6};
        for (int n = 0; n < told.length; n++) {
            x.delay(1, 0, told[n]);
            Check.due("own lateness of " + told[n], boards[n], x.board(1));
        }
    }

    /** The same: REAL of the other one, not its PLAN, and TIME. */
    private static void realOfAnArc() {
        MaxplusJunction x = Nets.of(0, 10, 20);
        x.arc(0, 1, 10, 0, Nets.RUN);
        x.arc(1, 2, 9, 0, Nets.RUN);
        x.horizon(1);
        x.delay(0, 0, 1);
        Check.due("one minute comes to 1", "11+1", x.board(1));
        Check.due("and heals before 2", "20", x.board(2));
        x.delay(0, 0, 2);
        Check.due("one of two comes to 2", "21+1", x.board(2));
        x.live(0, false);
        Check.due("no longer", "10", x.board(1));
        Check.due("no longer", "20", x.board(2));
    }

    /** "LATE of it is REAL less PLAN": 0 is not LATE, 1 is. */
    private static void lateByTheLeastMinute() {
        MaxplusJunction x = Nets.of(0, 10);
        x.arc(0, 1, 10, 0, Nets.RUN);
        x.horizon(1);
        Check.dueEach(x, "day", NOTHING, 0, 0, 0, 0, 0, 1, 0, 0);
        Check.dueEach(x, "at", new Object[] {1, 0}, 10, 10, 0, 0, -1, -1);
        x.delay(0, 0, 1);
        Check.dueEach(x, "day", NOTHING, 2, 2, 1, 2, 1, 1, 0, 1);
        Check.dueEach(x, "at", new Object[] {1, 0}, 10, 11, 1, 0, 0, 0);
    }

    /** "Returns how many TURNS had some.": LATENESS of their own, of 1 or more. */
    private static void clearCountsTurnsWithLateness() {
        MaxplusJunction x = Nets.many(14);
        x.arc(0, 1, 1, 1, Nets.RUN);
        Check.due("none", 0, x.clear());
        x.delay(0, 0, 500);
        x.delay(13, 5, 1);
        x.delay(7, 2, 9);
        x.delay(7, 2, 0);
        Check.due("turns that are late", 3, x.day(3));
        Check.due("two have some", 2, x.clear());
        Check.due("nothing is late", 0, x.day(3));
        Check.due("none again", 0, x.clear());
        x.horizon(12);
        for (int departure = 0; departure < 14; departure++) {
            for (int turn = 0; turn < 12; turn++) {
                x.delay(departure, turn, 500);
            }
        }
        Check.due("lateness of all", 84000, x.day(7));
        Check.due("all have some", 168, x.clear());
        Check.due("none is left", 0, x.day(7));
    }

    /** storm(): "Tells LATENESS of all TURNS", "otherwise none" */
    private static void stormTakesOldLatenessAway() {
        for (int seed = 0; seed < 100; seed += 9) {
            MaxplusJunction x = Nets.many(7);
            MaxplusJunction y = Nets.many(7);
            for (int departure = 0; departure < 7; departure++) {
                for (int turn = 0; turn < 6; turn++) {
                    x.delay(departure, turn, 101 + turn);
                }
            }
            Check.due("together", y.storm(seed, 100), x.storm(seed, 100));
            Check.due("lateness", x.day(7), y.day(7));
            for (int turn = 0; turn < 6; turn++) {
                for (int departure = 0; departure < 7; departure++) {
                    Check.due("lateness", y.at(departure, turn, 3), x.at(departure, turn, 3));
                }
            }
        }
    }

    /** "TURN by TURN of the DAY, DEPARTURE by DEPARTURE .. (and no second number is DRAWN)" */
    private static void stormTurnByTurn() {
        MaxplusJunction x = Nets.many(2);
        x.horizon(4);
        // The row of 5 is 76, 110, 104, 12, 108, 111, 44, 109, 51, ..: 104 is the first one that 8 divides.
        Check.due("12 modulo 101", 12, x.storm(5, 100));
        Check.due("turn 1 of departure 0", 12, x.at(0, 1, 3));
        Check.due("12 modulo 8", 4, x.storm(5, 7));
        Check.due("turn 1 of departure 0", 4, x.at(0, 1, 3));
        MaxplusJunction y = Nets.many(3);
        y.horizon(2);
        y.storm(5, 100);
        Check.due("of three it is turn 0 of departure 2", 12, y.at(2, 0, 3));
        MaxplusJunction z = Nets.many(2);
        z.horizon(1);
        z.delay(0, 0, 7);
        Check.due("not within one turn", 0, z.storm(5, 100));
        Check.due("none", 0, z.at(0, 0, 3));
    }

    /** "seed is not 0 to 99, or most not 1 to 100": both ends, by a row of the test's own. */
    private static void stormLeastAndGreatest() {
        for (int seed : new int[] {0, 99}) {
            for (int most : new int[] {1, 100}) {
                MaxplusJunction x = Nets.many(14);
                x.horizon(12);
                int row = seed;
                int sum = 0;
                int got = x.storm(seed, most);
                for (int turn = 0; turn < 12; turn++) {
                    for (int departure = 0; departure < 14; departure++) {
                        int want = 0;
                        row = (53 * row + 37) % 113;
                        if (row % 8 == 0) {
                            row = (53 * row + 37) % 113;
                            want = row % (most + 1);
                        }
                        sum += want;
                        Check.due("seed " + seed + ", most " + most, want, x.at(departure, turn, 3));
                    }
                }
                Check.due("all together", sum, got);
            }
        }
    }
}
