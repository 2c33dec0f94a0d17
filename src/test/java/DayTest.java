/** Promises 11 to 15 and 23 to 25: a day is told, and what runs through it is answered. */
public final class DayTest {
    public static void main(String[] args) {
        horizon();
        delay();
        clear();
        storm();
        decide();
        decideAmongRings();
        decideTies();
        at();
        blameOfTheSmallestArc();
        blameOfWhatIsNotLate();
        day();
        settles();
        board();
        Check.end("DayTest");
    }

    /** Promise 11. */
    private static void horizon() {
        MaxplusJunction x = new MaxplusJunction();
        x.departure(0, 0, 1);
        x.departure(0, 0, 1);
        Check.due("horizon(12)", 6, x.horizon(12));
        x.delay(0, 3, 10);
        x.delay(1, 4, 20);
        x.delay(0, 11, 30);
        Check.due("horizon(12) again", 12, x.horizon(12));
        Check.due("all lateness stays", 60, x.day(7));
        Check.due("horizon(4)", 12, x.horizon(4));
        Check.due("lateness of turn 3 stays", 10, x.day(7));
        Check.refused("turn 4 is gone", Check.INDEX, x, () -> x.at(0, 4, 1));
        x.horizon(12);
        Check.due("what is gone is gone", 10, x.day(7));
        Check.due("turn 11", 0, x.at(0, 11, 3));
        Check.due("turn 4", 0, x.at(1, 4, 3));
        Check.refused("horizon(0)", Check.ARGUMENT, x, () -> x.horizon(0));
        Check.refused("horizon(13)", Check.ARGUMENT, x, () -> x.horizon(13));
        Check.due("horizon(1)", 12, x.horizon(1));
        Check.due("H", 1, x.day(5));
        Check.due("nothing left", 0, x.day(7));
    }

    /** Promise 12. */
    private static void delay() {
        MaxplusJunction x = new MaxplusJunction();
        x.departure(0, 0, 1);
        Check.due("delay(0, 5, 500)", 0, x.delay(0, 5, 500));
        Check.due("delay(0, 5, 1)", 500, x.delay(0, 5, 1));
        Check.due("delay(0, 5, 0)", 1, x.delay(0, 5, 0));
        Check.due("delay(0, 0, 7)", 0, x.delay(0, 0, 7));
        Check.due("lateness", 7, x.at(0, 0, 3));
        Check.refused("no departure 1", Check.INDEX, x, () -> x.delay(1, 0, 501));
        Check.refused("no departure -1", Check.INDEX, x, () -> x.delay(-1, 0, 1));
        Check.refused("turn 6", Check.INDEX, x, () -> x.delay(0, 6, 501));
        Check.refused("turn -1", Check.INDEX, x, () -> x.delay(0, -1, 1));
        Check.refused("minutes 501", Check.ARGUMENT, x, () -> x.delay(0, 0, 501));
        Check.refused("minutes -1", Check.ARGUMENT, x, () -> x.delay(0, 0, -1));
    }

    /** Promise 13. */
    private static void clear() {
        MaxplusJunction x = new MaxplusJunction();
        Check.due("no departures", 0, x.clear());
        x.departure(0, 0, 1);
        x.departure(0, 0, 1);
        x.delay(0, 0, 7);
        x.delay(1, 5, 1);
        x.delay(1, 4, 1);
        x.delay(1, 4, 0);
        Check.due("two turns", 2, x.clear());
        Check.due("no lateness", 0, x.day(7));
        Check.due("nothing late", 0, x.day(1));
        Check.due("none", 0, x.clear());
    }

    /** Promise 14. */
    private static void storm() {
        MaxplusJunction x = new MaxplusJunction();
        Check.due("no departures", 0, x.storm(3, 9));
        Check.refused("seed -1", Check.ARGUMENT, x, () -> x.storm(-1, 5));
        Check.refused("seed 100", Check.ARGUMENT, x, () -> x.storm(100, 5));
        Check.refused("most 0", Check.ARGUMENT, x, () -> x.storm(5, 0));
        Check.refused("most 101", Check.ARGUMENT, x, () -> x.storm(5, 101));
        for (int seed = 0; seed < 100; seed += 11) {
            for (int most = 1; most <= 100; most += 33) {
                stormBy(seed, most);
            }
        }
    }

    private static void stormBy(int seed, int most) {
        MaxplusJunction x = new MaxplusJunction();
        x.lay(3, 8);
        x.horizon(9);
        x.delay(0, 0, 400);
        int count = x.ofLine(0, 0) + x.ofLine(1, 0) + x.ofLine(2, 0);
        int[] row = {seed};
        int sum = 0;
        int got = x.storm(seed, most);
        for (int turn = 0; turn < 9; turn++) {
            for (int departure = 0; departure < count; departure++) {
                int want = draw(row) % 8 == 0 ? draw(row) % (most + 1) : 0;
                sum += want;
                Check.due("storm(" + seed + ", " + most + ")", want, x.at(departure, turn, 3));
            }
        }
        Check.due("storm(" + seed + ", " + most + ") together", sum, got);
        Check.due("lateness together", sum, x.day(7));
    }

    private static int draw(int[] row) {
        row[0] = (53 * row[0] + 37) % 113;
        return row[0];
    }

    /** Promise 15, and 29: a connection is broken if its riders cost less than what it makes late. */
    private static void decide() {
        MaxplusJunction x = new MaxplusJunction();
        x.departure(0, 0, 1);
        x.departure(1, 20, 10);
        x.arc(0, 1, 20, 0, 2);
        x.horizon(1);
        x.delay(0, 0, 30);
        x.riders(0, 5, false);
        Check.due("nothing can be chosen", 0, x.decide());
        Check.due("30 of the first, 300 of the second", 330, x.best(0));
        x.riders(0, 5, true);
        Check.due("5 riders of 60 cost as much", 330, x.best(0));
        Check.due("so none changes", 0, x.best(1));
        Check.due("none", 0, x.decide());
        x.riders(0, 4, true);
        Check.due("4 riders cost less", 30 + 4 * 60, x.best(0));
        Check.due("its number", 1, x.best(1));
        Check.due("one changes", 1, x.best(2));
        Check.due("it is asked, not done", 1, x.ofArc(0, 6));
        Check.due("one changed", 1, x.decide());
        Check.due("it is done", 0, x.ofArc(0, 6));
        Check.due("its cost", 270, x.day(0));
        Check.due("nothing more", 0, x.decide());
        Check.due("its number stays", 1, x.best(1));
        x.clear();
        Check.due("it is let live again", 1, x.decide());
        Check.due("live", 1, x.ofArc(0, 6));
        Check.refused("best(-1)", Check.ARGUMENT, x, () -> x.best(-1));
        Check.refused("best(3)", Check.ARGUMENT, x, () -> x.best(3));
    }

    /** Promise 15, and 29: orders that make a ring are no choices. */
    private static void decideAmongRings() {
        MaxplusJunction x = new MaxplusJunction();
        x.departure(0, 0, 1);
        x.departure(1, 0, 9);
        x.arc(0, 1, 50, 0, 3);
        x.live(0, false);
        x.arc(1, 0, 50, 0, 3);
        x.pair(0, 1);
        x.horizon(1);
        Check.due("cost of 0 behind 1", 50, x.day(0));
        Check.due("the best as it is", 16, x.best(1));
        Check.due("no changes", 0, x.best(2));
        x.live(0, true);
        Check.due("cost of 1 behind 0", 450, x.day(0));
        Check.due("the best is the other one", 50, x.best(0));
        Check.due("its number", 16, x.best(1));
        Check.due("both change", 2, x.best(2));
        x.departure(2, 0, 0);
        x.arc(0, 2, 1, 0, 0);
        x.arc(2, 1, 1, 0, 0);
        Check.due("but that makes a ring now", 450, x.best(0));
        Check.due("so it stays", 0, x.decide());
        Check.due("it is live", 1, x.ofArc(0, 6));
        x.live(0, false);
        Check.due("none of a pair stays so", 0, x.decide());
        Check.due("none of both", 0, x.ofArc(0, 6) + x.ofArc(1, 6));
        Check.due("the number without it", 0, x.best(1));
    }

    /** Promise 15, and 29: of the same cost the fewest changes, then the smallest number. */
    private static void decideTies() {
        MaxplusJunction x = new MaxplusJunction();
        x.departure(0, 0, 1);
        x.departure(1, 0, 1);
        x.departure(1, 0, 0);
        x.arc(2, 2, 1, 1, 2);
        for (int number = 1; number < 5; number++) {
            x.arc(2, 2, 1, 1, 2);
            x.riders(number, 0, true);
        }
        x.live(3, false);
        Check.due("as it is: the third one that may be broken", 4, x.best(1));
        Check.due("no changes", 0, x.best(2));
        x.riders(3, 1, true);
        Check.due("riders cost, so it is live", 0, x.best(1));
        Check.due("one change", 1, x.decide());
        x.arc(0, 1, 10, 0, 3);
        x.live(5, false);
        x.arc(0, 1, 30, 0, 3);
        x.pair(6, 5);
        Check.due("the pair is swapped", 16, x.best(1));
        Check.due("both of it change", 2, x.best(2));
        Check.due("done", 2, x.decide());
        Check.due("and stays", 0, x.decide());
        x.arc(2, 1, 60, 0, 2);
        x.arc(2, 1, 60, 0, 2);
        for (int number = 1; number < 5; number++) {
            x.riders(number, 0, false);
        }
        x.riders(7, 0, true);
        x.riders(8, 0, true);
        x.live(5, false);
        Check.due("both must be broken", 3, x.best(1));
        x.riders(8, 0, false);
        Check.due("one alone is no help, none is changed", 0, x.best(1));
        x.live(8, false);
        Check.due("now the first helps", 1, x.best(1));
        MaxplusJunction y = new MaxplusJunction();
        y.departure(0, 0, 1);
        y.departure(1, 0, 0);
        y.departure(1, 0, 1);
        y.arc(1, 2, 10, 0, 2);
        y.arc(0, 1, 10, 0, 2);
        y.riders(0, 0, true);
        y.riders(1, 0, true);
        y.delay(0, 0, 40);
        y.arc(1, 2, 1, 1, 0);
        y.move(2, 10);
        y.move(1, 10);
        y.move(2, 20);
        Check.due("either one would help, the first is taken", 1, y.best(1));
        Check.due("one changes", 1, y.best(2));
    }

    /** Promise 23. */
    private static void at() {
        MaxplusJunction x = new MaxplusJunction();
        x.departure(0, 3, 1);
        x.departure(0, 10, 1);
        x.arc(0, 1, 5, 0, 0);
        x.arc(1, 0, 40, 1, 1);
        x.delay(0, 1, 30);
        int[][][] want = {
            {{3, 3, 0, 0, -1, -1}, {63, 93, 30, 30, 0, 1}, {123, 138, 15, 0, 0, 1}, {183, 183, 0, 0, -1, -1}},
            {{10, 10, 0, 0, -1, -1}, {70, 98, 28, 0, 0, 1}, {130, 143, 13, 0, 0, 1}, {190, 190, 0, 0, -1, -1}}};
        for (int departure = 0; departure < 2; departure++) {
            for (int turn = 0; turn < 4; turn++) {
                for (int what = 0; what < 6; what++) {
                    Check.due("at(" + departure + ", " + turn + ", " + what + ")",
                            want[departure][turn][what], x.at(departure, turn, what));
                }
            }
        }
        x.delay(1, 2, 13);
        Check.due("its own lateness is as much", 1, x.at(1, 2, 4));
        Check.due("its own turn", 2, x.at(1, 2, 5));
        x.delay(1, 2, 12);
        Check.due("its own lateness is less", 0, x.at(1, 2, 4));
        x.live(0, false);
        Check.due("a broken arc makes nothing late", 12, x.at(1, 2, 2));
        Check.refused("no departure 2", Check.INDEX, x, () -> x.at(2, 0, 6));
        Check.refused("no departure -1", Check.INDEX, x, () -> x.at(-1, 0, 0));
        Check.refused("turn 6", Check.INDEX, x, () -> x.at(0, 6, -1));
        Check.refused("turn -1", Check.INDEX, x, () -> x.at(0, -1, 0));
        Check.refused("what 6", Check.ARGUMENT, x, () -> x.at(0, 0, 6));
        Check.refused("what -1", Check.ARGUMENT, x, () -> x.at(0, 0, -1));
    }

    /** Promise 23: of two arcs that come to just its REAL the one with the smaller number is to blame. */
    private static void blameOfTheSmallestArc() {
        MaxplusJunction x = new MaxplusJunction();
        x.departure(0, 0, 1);
        x.departure(1, 0, 1);
        x.departure(2, 20, 1);
        x.arc(1, 2, 20, 0, 0);
        x.arc(0, 2, 25, 0, 0);
        x.delay(0, 0, 5);
        x.delay(1, 0, 10);
        Check.due("both come to 30", 30, x.at(2, 0, 1));
        Check.due("arc 0 is to blame", 1, x.at(2, 0, 4));
        x.delay(1, 0, 9);
        Check.due("only arc 1 comes to 30", 0, x.at(2, 0, 4));
        x.delay(1, 0, 10);
        x.live(0, false);
        Check.due("arc 0 is broken", 0, x.at(2, 0, 4));
    }

    /** Promises 23 and 16: a ROOT may be a turn that is not late itself, if the timetable does not hold. */
    private static void blameOfWhatIsNotLate() {
        MaxplusJunction x = new MaxplusJunction();
        x.departure(0, 0, 1);
        x.departure(1, 20, 1);
        x.arc(0, 1, 50, 1, 0);
        x.arc(0, 1, 100, 2, 0);
        x.period(20);
        x.horizon(3);
        Check.due("turn 1 is late by 10", 10, x.at(1, 1, 2));
        Check.due("turn 2 is late by 40", 40, x.at(1, 2, 2));
        Check.due("turn 1's root", 0, x.at(1, 1, 4));
        Check.due("turn 1's root's turn", 0, x.at(1, 1, 5));
        Check.due("turn 2's root's turn", 0, x.at(1, 2, 5));
        Check.due("the root is not late", Check.NONE, x.at(0, 0, 4));
        Check.due("its minutes", 50, x.ofDeparture(0, 6));
        Check.due("no minutes of the other one", 0, x.ofDeparture(1, 6));
        Check.due("late of the other one", 50, x.ofDeparture(1, 7));
    }

    /** Promise 24. */
    private static void day() {
        MaxplusJunction x = new MaxplusJunction();
        x.departure(0, 0, 3);
        x.departure(1, 10, 2);
        x.arc(0, 1, 5, 0, 2);
        x.arc(1, 0, 5, 1, 0);
        x.riders(0, 7, false);
        x.delay(0, 2, 25);
        x.delay(1, 4, 4);
        int[] want = {3 * 25 + 2 * 20 + 2 * 4, 49, 5, 3, 25, 6, 0, 29};
        for (int what = 0; what < want.length; what++) {
            Check.due("day(" + what + ")", want[what], x.day(what));
        }
        x.live(0, false);
        x.live(1, false);
        Check.due("cost with a broken connection", 3 * 25 + 2 * 4 + 7 * 60 * 6, x.day(0));
        Check.due("two are broken", 2, x.day(6));
        x.period(50);
        x.horizon(3);
        Check.due("cost by another period and H", 3 * 25 + 7 * 50 * 3, x.day(0));
        Check.refused("day(8)", Check.ARGUMENT, x, () -> x.day(8));
        Check.refused("day(-1)", Check.ARGUMENT, x, () -> x.day(-1));
    }

    /** Promise 24: the turn at which a day settles. */
    private static void settles() {
        MaxplusJunction x = new MaxplusJunction();
        Check.due("no departures", 0, x.day(2));
        x.departure(0, 0, 1);
        Check.due("nothing is late", 0, x.day(2));
        x.delay(0, 0, 1);
        Check.due("behind turn 0", 1, x.day(2));
        x.delay(0, 3, 1);
        Check.due("behind turn 3", 4, x.day(2));
        x.delay(0, 5, 1);
        Check.due("H", 6, x.day(2));
        Check.due("three are late", 3, x.day(3));
    }

    /** Promise 25. */
    private static void board() {
        MaxplusJunction x = new MaxplusJunction();
        x.departure(0, 0, 1);
        x.horizon(3);
        Check.due("nothing late", "0 60 120", x.board(0));
        x.delay(0, 1, 5);
        Check.due("turn 1", "0 65+5 120", x.board(0));
        x.delay(0, 0, 70);
        x.delay(0, 2, 500);
        Check.due("all", "70+70 65+5 620+500", x.board(0));
        x.horizon(1);
        Check.due("one", "70+70", x.board(0));
        Check.refused("no departure 1", Check.INDEX, x, () -> x.board(1));
        Check.refused("no departure -1", Check.INDEX, x, () -> x.board(-1));
    }
}
