/** Promises 1 to 10: the net is told, and what is told is answered. */
public final class NetTest {
    public static void main(String[] args) {
        newObject();
        period();
        departure();
        move();
        arc();
        rings();
        riders();
        pair();
        live();
        liveOfPairs();
        make();
        makeRefused();
        layOneLine();
        layMoreLines();
        Check.end("NetTest");
    }

    /** Promise 1. */
    private static void newObject() {
        MaxplusJunction x = new MaxplusJunction();
        Check.due("PERIOD at first", 60, x.period(60));
        Check.due("H at first", 6, x.day(5));
        Check.due("no arcs broken at first", 0, x.day(6));
        Check.due("no lateness at first", 0, x.day(7));
        Check.refused("no departure 0", Check.INDEX, x, () -> x.ofDeparture(0, 0));
        Check.refused("no arc 0", Check.INDEX, x, () -> x.ofArc(0, 0));
        for (int line = 0; line < 6; line++) {
            Check.due("a line at first", 0, x.ofLine(line, 0));
        }
        MaxplusJunction y = new MaxplusJunction();
        y.departure(0, 1, 1);
        Check.due("two nets are two", 0, new MaxplusJunction().ofLine(0, 0));
        Check.refused("x is not y", Check.INDEX, x, () -> x.move(0, 1));
    }

    /** Promise 2. */
    private static void period() {
        MaxplusJunction x = new MaxplusJunction();
        Check.due("period(1)", 60, x.period(1));
        Check.due("period(500)", 1, x.period(500));
        Check.refused("period(0)", Check.ARGUMENT, x, () -> x.period(0));
        Check.refused("period(501)", Check.ARGUMENT, x, () -> x.period(501));
        Check.refused("period(-7)", Check.ARGUMENT, x, () -> x.period(-7));
        Check.due("period(7)", 500, x.period(7));
        x.departure(0, 5, 1);
        Check.due("plan by the period", 5 + 3 * 7, x.at(0, 3, 0));
        x.period(8);
        Check.due("plan by the next period", 5 + 3 * 8, x.at(0, 3, 0));
        Check.due("the offset stays", 5, x.ofDeparture(0, 1));
    }

    /** Promise 3. */
    private static void departure() {
        MaxplusJunction x = new MaxplusJunction();
        Check.refused("line -1", Check.ARGUMENT, x, () -> x.departure(-1, 0, 0));
        Check.refused("line 6", Check.ARGUMENT, x, () -> x.departure(6, 0, 0));
        Check.refused("offset -1", Check.ARGUMENT, x, () -> x.departure(0, -1, 0));
        Check.refused("offset 1000", Check.ARGUMENT, x, () -> x.departure(0, 1000, 0));
        Check.refused("weight -1", Check.ARGUMENT, x, () -> x.departure(0, 0, -1));
        Check.refused("weight 100", Check.ARGUMENT, x, () -> x.departure(0, 0, 100));
        Check.due("the first number", 0, x.departure(5, 999, 99));
        Check.due("line", 5, x.ofDeparture(0, 0));
        Check.due("offset", 999, x.ofDeparture(0, 1));
        Check.due("weight", 99, x.ofDeparture(0, 2));
        for (int number = 1; number < 14; number++) {
            Check.due("a number", number, x.departure(0, number, 0));
        }
        Check.refused("a fifteenth", Check.STATE, x, () -> x.departure(0, 0, 0));
        Check.refused("a wrong fifteenth", Check.ARGUMENT, x, () -> x.departure(6, 0, 0));
        Check.due("the last one", 13, x.ofDeparture(13, 1));
        Check.refused("no departure 14", Check.INDEX, x, () -> x.ofDeparture(14, 1));
    }

    /** Promise 4. */
    private static void move() {
        MaxplusJunction x = new MaxplusJunction();
        x.departure(0, 3, 1);
        x.departure(0, 4, 1);
        Check.due("move(1, 999)", 4, x.move(1, 999));
        Check.due("move(1, 0)", 999, x.move(1, 0));
        Check.due("the other one stays", 3, x.ofDeparture(0, 1));
        Check.due("moved", 0, x.ofDeparture(1, 1));
        Check.refused("move(2, 0)", Check.INDEX, x, () -> x.move(2, 0));
        Check.refused("move(-1, 0)", Check.INDEX, x, () -> x.move(-1, 0));
        Check.refused("move(2, 1000)", Check.INDEX, x, () -> x.move(2, 1000));
        Check.refused("move(0, 1000)", Check.ARGUMENT, x, () -> x.move(0, 1000));
        Check.refused("move(0, -1)", Check.ARGUMENT, x, () -> x.move(0, -1));
    }

    /** Promise 5: what is told, and the bounds. */
    private static void arc() {
        MaxplusJunction x = new MaxplusJunction();
        x.departure(0, 0, 1);
        x.departure(0, 20, 1);
        Check.refused("from 2", Check.INDEX, x, () -> x.arc(2, 0, 1, 1, 0));
        Check.refused("to 2", Check.INDEX, x, () -> x.arc(0, 2, 1, 1, 0));
        Check.refused("from -1", Check.INDEX, x, () -> x.arc(-1, 0, 0, 1, 0));
        Check.refused("to -1", Check.INDEX, x, () -> x.arc(0, -1, 1, 9, 0));
        Check.refused("time 0", Check.ARGUMENT, x, () -> x.arc(0, 1, 0, 1, 0));
        Check.refused("time 301", Check.ARGUMENT, x, () -> x.arc(0, 1, 301, 1, 0));
        Check.refused("shift -1", Check.ARGUMENT, x, () -> x.arc(0, 1, 1, -1, 0));
        Check.refused("shift 3", Check.ARGUMENT, x, () -> x.arc(0, 1, 1, 3, 0));
        Check.refused("kind -1", Check.ARGUMENT, x, () -> x.arc(0, 1, 1, 1, -1));
        Check.refused("kind 4", Check.ARGUMENT, x, () -> x.arc(0, 1, 1, 1, 4));
        Check.due("the first number", 0, x.arc(0, 1, 300, 2, 3));
        int[] told = {0, 1, 300, 2, 3, 0, 1, 20 + 2 * 60 - 300, 0, Check.NONE};
        for (int what = 0; what < told.length; what++) {
            Check.due("ofArc(0, " + what + ")", told[what], x.ofArc(0, what));
        }
        for (int number = 1; number < 36; number++) {
            Check.due("a number", number, x.arc(number % 2, 0, number, 1, number % 4));
        }
        Check.refused("a 37th", Check.STATE, x, () -> x.arc(0, 1, 1, 1, 0));
        Check.refused("a wrong 37th", Check.ARGUMENT, x, () -> x.arc(0, 1, 0, 1, 0));
        Check.refused("a lost 37th", Check.INDEX, x, () -> x.arc(0, 2, 0, 1, 0));
        Check.due("the last one", 35, x.ofArc(35, 2));
        Check.refused("no arc 36", Check.INDEX, x, () -> x.ofArc(36, 2));
    }

    /** Promise 5: arcs with a shift of 0 never make a ring. */
    private static void rings() {
        MaxplusJunction x = new MaxplusJunction();
        for (int number = 0; number < 4; number++) {
            x.departure(0, 0, 1);
        }
        Check.refused("a ring alone", Check.STATE, x, () -> x.arc(1, 1, 5, 0, 0));
        Check.due("alone with a shift", 0, x.arc(1, 1, 5, 1, 0));
        x.arc(0, 1, 5, 0, 0);
        x.arc(1, 2, 5, 0, 1);
        x.arc(2, 3, 5, 0, 2);
        Check.refused("a ring of four", Check.STATE, x, () -> x.arc(3, 0, 5, 0, 3));
        Check.refused("a ring of two", Check.STATE, x, () -> x.arc(1, 0, 5, 0, 3));
        Check.due("back with a shift", 4, x.arc(3, 0, 5, 1, 3));
        Check.due("two of the same", 5, x.arc(0, 1, 6, 0, 0));
        x.live(2, false);
        Check.due("back where one is broken", 6, x.arc(3, 0, 5, 0, 3));
        Check.refused("that one again", Check.STATE, x, () -> x.live(2, true));
        Check.due("the ring alone is seen with others", 7, x.arc(1, 3, 5, 2, 0));
    }

    /** Promise 6. */
    private static void riders() {
        MaxplusJunction x = new MaxplusJunction();
        x.departure(0, 0, 1);
        x.departure(0, 9, 1);
        for (int number = 0; number < 6; number++) {
            x.arc(0, 1, 5, 1, 2);
        }
        for (int kind = 0; kind < 4; kind++) {
            x.arc(0, 1, 5, 1, kind);
        }
        Check.due("none may be broken", 0, x.riders(5, 99, false));
        Check.due("riders", 99, x.ofArc(5, 5));
        for (int number = 0; number < 4; number++) {
            Check.due("how many may", number + 1, x.riders(number, number, true));
        }
        Check.refused("a fifth", Check.STATE, x, () -> x.riders(4, 7, true));
        Check.due("a fifth that may not", 4, x.riders(4, 7, false));
        Check.due("one of the four again", 4, x.riders(3, 50, true));
        Check.due("its riders", 50, x.ofArc(3, 5));
        Check.due("it may be broken", 1, x.ofArc(3, 8));
        Check.due("one less", 3, x.riders(3, 0, false));
        Check.due("it may not be broken", 0, x.ofArc(3, 8));
        Check.due("another one", 4, x.riders(5, 0, true));
        Check.refused("no arc 10", Check.INDEX, x, () -> x.riders(10, 100, true));
        Check.refused("no arc -1", Check.INDEX, x, () -> x.riders(-1, 1, true));
        Check.refused("riders 100", Check.ARGUMENT, x, () -> x.riders(6, 100, true));
        Check.refused("riders -1", Check.ARGUMENT, x, () -> x.riders(0, -1, true));
        Check.refused("a run", Check.STATE, x, () -> x.riders(6, 1, false));
        Check.refused("stock", Check.STATE, x, () -> x.riders(7, 1, false));
        Check.refused("a track", Check.STATE, x, () -> x.riders(9, 1, false));
        x.live(0, false);
        Check.due("one that is broken", 4, x.riders(0, 3, true));
        Check.due("it stays broken", 0, x.ofArc(0, 6));
    }

    /** Promise 7. */
    private static void pair() {
        MaxplusJunction x = new MaxplusJunction();
        x.departure(0, 0, 1);
        x.departure(0, 9, 1);
        for (int number = 0; number < 9; number++) {
            x.arc(0, 1, 5, 1, 3);
        }
        x.arc(0, 1, 5, 1, 2);
        Check.due("the first pair", 0, x.pair(3, 1));
        Check.due("the first arc is live", 1, x.ofArc(3, 6));
        Check.due("the second one is broken", 0, x.ofArc(1, 6));
        Check.due("the other one", 1, x.ofArc(3, 9));
        Check.due("and of that", 3, x.ofArc(1, 9));
        Check.due("no pair", Check.NONE, x.ofArc(0, 9));
        Check.refused("no arc 10", Check.INDEX, x, () -> x.pair(10, 10));
        Check.refused("no arc -1", Check.INDEX, x, () -> x.pair(0, -1));
        Check.refused("both the same", Check.ARGUMENT, x, () -> x.pair(1, 1));
        Check.refused("the first is no track", Check.STATE, x, () -> x.pair(9, 0));
        Check.refused("the second is no track", Check.STATE, x, () -> x.pair(0, 9));
        Check.refused("the first is in a pair", Check.STATE, x, () -> x.pair(1, 0));
        Check.refused("the second is in a pair", Check.STATE, x, () -> x.pair(0, 3));
        x.live(0, false);
        Check.due("the first is broken", 1, x.pair(0, 2));
        Check.due("the second stays live", 1, x.ofArc(2, 6));
        Check.due("the first stays broken", 0, x.ofArc(0, 6));
        x.live(4, false);
        x.live(5, false);
        Check.due("both are broken", 2, x.pair(4, 5));
        Check.due("they stay so", 0, x.ofArc(4, 6) + x.ofArc(5, 6));
        Check.refused("a fourth pair", Check.STATE, x, () -> x.pair(6, 7));
        Check.refused("a fourth, the same", Check.ARGUMENT, x, () -> x.pair(6, 6));
    }

    /** Promise 8 without pairs. */
    private static void live() {
        MaxplusJunction x = new MaxplusJunction();
        x.departure(0, 0, 1);
        x.departure(0, 9, 1);
        x.arc(0, 1, 5, 0, 0);
        Check.due("it was live", true, x.live(0, true));
        Check.due("it was live, now broken", true, x.live(0, false));
        Check.due("it is broken", 0, x.ofArc(0, 6));
        Check.due("it was broken", false, x.live(0, false));
        x.arc(1, 0, 5, 0, 0);
        Check.refused("a ring", Check.STATE, x, () -> x.live(0, true));
        Check.due("no ring to break one", true, x.live(1, false));
        Check.due("it was broken, now live", false, x.live(0, true));
        Check.due("it is live", 1, x.ofArc(0, 6));
        Check.refused("no arc 2", Check.INDEX, x, () -> x.live(2, false));
        Check.refused("no arc -1", Check.INDEX, x, () -> x.live(-1, true));
    }

    /** Promise 8 with pairs: the other one is broken before rings are looked for. */
    private static void liveOfPairs() {
        MaxplusJunction x = new MaxplusJunction();
        x.departure(0, 0, 1);
        x.departure(0, 9, 1);
        x.departure(0, 9, 1);
        x.arc(0, 1, 5, 0, 3);
        x.live(0, false);
        x.arc(1, 0, 5, 0, 3);
        Check.due("a pair", 0, x.pair(1, 0));
        Check.due("swapped", false, x.live(0, true));
        Check.due("the other one is broken", 0, x.ofArc(1, 6));
        Check.due("live", 1, x.ofArc(0, 6));
        Check.due("live again changes nothing", true, x.live(0, true));
        Check.due("swapped back", false, x.live(1, true));
        Check.due("the first one is broken", 0, x.ofArc(0, 6));
        x.arc(1, 2, 5, 0, 0);
        x.arc(2, 0, 5, 0, 0);
        Check.refused("a ring with a third", Check.STATE, x, () -> x.live(0, true));
        Check.due("the other one is live still", 1, x.ofArc(1, 6));
        x.live(1, false);
        Check.refused("a ring, the other one broken", Check.STATE, x, () -> x.live(0, true));
        Check.due("the other one is broken still", 0, x.ofArc(1, 6));
        x.live(2, false);
        x.live(0, true);
        Check.due("broken alone", true, x.live(0, false));
        Check.due("none of both", 0, x.ofArc(0, 6) + x.ofArc(1, 6));
    }

    /** Promise 9. */
    private static void make() {
        MaxplusJunction x = new MaxplusJunction();
        Check.refused("no departure", Check.STATE, x, () -> x.make());
        x.departure(0, 77, 1);
        x.departure(0, 5, 1);
        x.departure(0, 5, 1);
        Check.due("no arcs", 0, x.make());
        Check.due("offset 0", 0, x.ofDeparture(0, 1));
        x.departure(0, 5, 1);
        x.arc(1, 0, 30, 0, 0);
        x.arc(2, 1, 18, 1, 0);
        x.arc(0, 2, 12, 0, 0);
        x.arc(2, 3, 100, 1, 0);
        Check.due("a ring of just the period, and one behind it", 42 + 100 - 60, x.make());
        Check.due("offset 0", 30, x.ofDeparture(0, 1));
        Check.due("offset 1", 0, x.ofDeparture(1, 1));
        Check.due("offset 2", 42, x.ofDeparture(2, 1));
        Check.due("offset 3", 82, x.ofDeparture(3, 1));
        x.live(3, false);
        Check.due("without the broken one", 42, x.make());
        x.period(59);
        Check.due("the ring above the period", Check.NONE, x.make());
        Check.due("offset 2 stays", 42, x.ofDeparture(2, 1));
    }

    /** Promise 9: what can not be made changes nothing. */
    private static void makeRefused() {
        MaxplusJunction x = new MaxplusJunction();
        for (int number = 0; number < 5; number++) {
            x.departure(0, 7, 1);
        }
        x.arc(0, 1, 300, 0, 0);
        x.arc(1, 2, 300, 0, 0);
        x.arc(2, 3, 300, 0, 0);
        x.arc(3, 4, 99, 0, 0);
        Check.due("999", 999, x.make());
        x.live(3, false);
        x.arc(3, 4, 100, 0, 0);
        long before = x.digest();
        Check.due("1000", Check.NONE, x.make());
        Check.due("the digest behind it", before, x.digest());
        x.live(4, false);
        x.arc(4, 4, 61, 1, 0);
        Check.due("a ring above the period", Check.NONE, x.make());
        x.period(61);
        Check.due("a ring of the period", 900, x.make());
        Check.due("the last one", 0, x.ofDeparture(4, 1));
        x.live(5, false);
        x.arc(1, 0, 1, 2, 0);
        x.period(150);
        Check.due("301 of two turns", Check.NONE, x.make());
        x.period(151);
        Check.due("301 of 302", 900, x.make());
    }

    /** Promise 10: one line, told number by number. */
    private static void layOneLine() {
        MaxplusJunction x = new MaxplusJunction();
        // The row of 5 is 76, 110, 104, 12, 108, 111, 44, 109, ..
        Check.due("lay(1, 5)", 2, x.lay(1, 5));
        int[][] departures = {{0, 110 % 60, 1 + 104 % 5}, {0, 12, 1 + 108 % 5}};
        int[][] arcs = {{0, 1, 10 + 111 % 20, 0, 0}, {1, 0, 10 + 44 % 30, 1, 1}};
        for (int what = 0; what < 3; what++) {
            Check.due("departure 0", departures[0][what], x.ofDeparture(0, what));
            Check.due("departure 1", departures[1][what], x.ofDeparture(1, what));
        }
        for (int what = 0; what < 5; what++) {
            Check.due("arc 0", arcs[0][what], x.ofArc(0, what));
            Check.due("arc 1", arcs[1][what], x.ofArc(1, what));
        }
        Check.due("two departures", 2, x.ofLine(0, 0));
        Check.refused("a departure", Check.STATE, x, () -> x.lay(1, 5));
        Check.refused("lines 0", Check.ARGUMENT, x, () -> x.lay(0, 5));
        Check.refused("lines 5", Check.ARGUMENT, x, () -> x.lay(5, 5));
        Check.refused("seed -1", Check.ARGUMENT, x, () -> x.lay(1, -1));
        Check.refused("seed 100", Check.ARGUMENT, x, () -> x.lay(1, 100));
        MaxplusJunction z = new MaxplusJunction();
        z.departure(0, 0, 0);
        Check.refused("one departure", Check.STATE, z, () -> z.lay(1, 5));
        MaxplusJunction y = new MaxplusJunction();
        y.period(7);
        Check.due("lay by a period of 7", 2, y.lay(1, 5));
        Check.due("offset by a period of 7", 110 % 7, y.ofDeparture(0, 1));
    }

    /** Promise 10: more lines, followed by a row of the test's own. */
    private static void layMoreLines() {
        for (int each = 0; each < 400; each++) {
            int seed = each / 4;
            int lines = 1 + each % 4;
            MaxplusJunction x = new MaxplusJunction();
            int arcs = x.lay(lines, seed);
            int[] row = {seed};
            int[] first = new int[lines + 1];
            int arc = 0;
            for (int line = 0; line < lines; line++) {
                int count = 2 + draw(row) % 2;
                first[line + 1] = first[line] + count;
                Check.due("departures of a line", count, x.ofLine(line, 0));
                for (int number = first[line]; number < first[line + 1]; number++) {
                    Check.due("offset", draw(row) % 60, x.ofDeparture(number, 1));
                    Check.due("weight", 1 + draw(row) % 5, x.ofDeparture(number, 2));
                }
                for (int stop = first[line]; stop < first[line + 1]; stop++) {
                    boolean isLast = stop == first[line + 1] - 1;
                    int to = isLast ? first[line] : stop + 1;
                    int time = isLast ? 10 + draw(row) % 30 : 10 + draw(row) % 20;
                    told(x, arc++, new int[] {stop, to, time, isLast ? 1 : 0, isLast ? 1 : 0, 0});
                }
            }
            for (int line = 1; line < lines; line++) {
                int time = 2 + draw(row) % 5;
                int shift = draw(row) % 2;
                int riders = draw(row) % 50;
                told(x, arc++, new int[] {first[line - 1], first[line + 1] - 1, time, shift, 2, riders});
            }
            Check.due("arcs of seed " + seed, arc, arcs);
        }
    }

    private static void told(MaxplusJunction x, int arc, int[] want) {
        for (int what = 0; what < want.length; what++) {
            Check.due("ofArc(" + arc + ", " + what + ")", want[what], x.ofArc(arc, what));
        }
        Check.due("a laid arc is live", 1, x.ofArc(arc, 6));
        Check.due("a laid arc may not be broken", 0, x.ofArc(arc, 8));
    }

    private static int draw(int[] row) {
        row[0] = (53 * row[0] + 37) % 113;
        return row[0];
    }
}
