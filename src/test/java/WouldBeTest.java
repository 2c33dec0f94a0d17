/** Promises 29 to 35: what would be, whether all is sound, and the digest. DayTest asks of best() too. */
public final class WouldBeTest {
    public static void main(String[] args) {
        best();
        without();
        wave();
        wouldMake();
        heals();
        healsTies();
        nothingIsChanged();
        isSound();
        digestOfNothing();
        digest();
        Check.end("WouldBeTest");
    }

    /** Promise 29: all that can be chosen at once. */
    private static void best() {
        MaxplusJunction x = Nets.of(0, 0, 0, 0, 0, 0, 0, 0);
        Check.due("without departures cost 0", 0, new MaxplusJunction().best(0));
        for (int number = 1; number < 5; number++) {
            x.arc(0, number, 100, 0, 2);
        }
        for (int number = 0; number < 4; number++) {
            x.riders(number, 5 * number, true);
        }
        for (int number = 5; number < 8; number++) {
            x.arc(0, number, 70 + number, 0, 3);
            x.arc(0, number, 70 - number, 0, 3);
        }
        x.pair(5, 4);
        x.pair(6, 7);
        x.pair(8, 9);
        x.horizon(1);
        // Broken if 60 * riders are less than 100; the pairs by their lesser time.
        Check.due("cost", 5 * 0 + 60 * 0 + 60 * 0 + 100 * 3 + 65 + 64 + 63, x.best(0));
        Check.due("number: the first connection, the seconds of pairs 1 and 2", 1 + 32 + 64, x.best(1));
        Check.due("one connection and two pairs", 1 + 2 + 2, x.best(2));
        x.riders(1, 1, true);
        Check.due("the second one costs 60 now", 1 + 2 + 32 + 64, x.best(1));
        Check.due("cost", 60 + 100 * 2 + 65 + 64 + 63, x.best(0));
        x.riders(0, 0, false);
        Check.due("the first one may not be broken: the second is the first", 1 + 32 + 64, x.best(1));
        Check.due("done", 5, x.decide());
        Check.due("cost of that", 60 + 100 * 3 + 65 + 64 + 63, x.day(0));
    }

    /** Promise 30. */
    private static void without() {
        MaxplusJunction x = new MaxplusJunction();
        x.departure(0, 0, 3);
        x.departure(0, 10, 5);
        x.arc(0, 1, 10, 0, 2);
        x.arc(0, 1, 9, 0, 3);
        x.arc(0, 1, 7, 0, 3);
        x.riders(0, 1, false);
        x.pair(1, 2);
        x.horizon(1);
        x.delay(0, 0, 20);
        Check.due("cost", 3 * 20 + 5 * 20, x.day(0));
        Check.due("without the connection", 3 * 20 + 5 * 19 + 60, x.without(0));
        Check.due("without the first of the pair", 3 * 20 + 5 * 20, x.without(1));
        Check.due("without the one that is broken", 3 * 20 + 5 * 20, x.without(2));
        x.live(0, false);
        Check.due("without the one that is broken", 3 * 20 + 5 * 19 + 60, x.without(0));
        Check.due("the other one of the pair stays broken", 3 * 20 + 60, x.without(1));
        Check.due("cost as it is", 3 * 20 + 5 * 19 + 60, x.day(0));
        Check.due("it is live still", 1, x.ofArc(1, 6));
        Check.refused("no arc 3", Check.INDEX, x, () -> x.without(3));
        Check.refused("no arc -1", Check.INDEX, x, () -> x.without(-1));
    }

    /** Promise 31. */
    private static void wave() {
        MaxplusJunction x = Nets.of(0, 10);
        x.arc(0, 1, 10, 0, 0);
        x.horizon(2);
        Check.due("two are late", 40, x.wave(0, 0, 20));
        Check.due("one is late", 20, x.wave(1, 1, 20));
        Check.due("none", 0, x.wave(1, 1, 0));
        x.delay(0, 1, 30);
        Check.due("less", -60, x.wave(0, 1, 0));
        Check.due("the same", 0, x.wave(0, 1, 30));
        Check.due("more", 2 * 470, x.wave(0, 1, 500));
        Check.due("hidden behind another", 0, x.wave(1, 1, 30));
        Check.due("lateness as it was", 30, x.at(0, 1, 3));
        Check.refused("no departure 2", Check.INDEX, x, () -> x.wave(2, 0, 501));
        Check.refused("no departure -1", Check.INDEX, x, () -> x.wave(-1, 0, 1));
        Check.refused("turn 2", Check.INDEX, x, () -> x.wave(0, 2, 501));
        Check.refused("turn -1", Check.INDEX, x, () -> x.wave(0, -1, 1));
        Check.refused("minutes 501", Check.ARGUMENT, x, () -> x.wave(0, 0, 501));
        Check.refused("minutes -1", Check.ARGUMENT, x, () -> x.wave(0, 0, -1));
    }

    /** Promise 32. */
    private static void wouldMake() {
        MaxplusJunction x = new MaxplusJunction();
        Check.refused("no departure", Check.STATE, x, () -> x.wouldMake(1));
        Check.refused("period 0, no departure", Check.ARGUMENT, x, () -> x.wouldMake(0));
        x.departure(0, 50, 1);
        x.departure(0, 60, 1);
        Check.due("no arcs", 0, x.wouldMake(1));
        x.arc(0, 1, 30, 0, 0);
        x.arc(1, 0, 35, 1, 0);
        Check.due("65", 30, x.wouldMake(65));
        Check.due("64", Check.NONE, x.wouldMake(64));
        Check.due("500", 30, x.wouldMake(500));
        x.arc(0, 1, 300, 1, 0);
        x.live(1, false);
        Check.due("1", 299, x.wouldMake(1));
        Check.due("300", 30, x.wouldMake(300));
        Check.due("period as it was", 60, x.period(60));
        Check.due("offset as it was", 60, x.ofDeparture(1, 1));
        Check.refused("period 501", Check.ARGUMENT, x, () -> x.wouldMake(501));
        Check.refused("period 0", Check.ARGUMENT, x, () -> x.wouldMake(0));
        MaxplusJunction y = Nets.of(0, 0, 0, 0, 0);
        for (int number = 0; number < 4; number++) {
            y.arc(number, number + 1, 300, 1, 0);
        }
        Check.due("1000", Check.NONE, y.wouldMake(50));
        Check.due("996", 996, y.wouldMake(51));
    }

    /** Promise 33. */
    private static void heals() {
        MaxplusJunction x = Nets.of(0, 10, 20, 20);
        Check.due("no arcs", Check.NONE, x.heals(100));
        x.arc(0, 1, 10, 0, 0);
        x.arc(1, 2, 10, 0, 0);
        x.arc(1, 3, 10, 0, 1);
        x.arc(0, 1, 300, 0, 0);
        x.live(3, false);
        x.horizon(1);
        Check.due("nothing is late", Check.NONE, x.heals(100));
        x.delay(0, 0, 5);
        Check.due("the first arc makes all less", 0, x.heals(1));
        x.delay(1, 0, 5);
        Check.due("its own lateness is not healed", 1, x.heals(5));
        x.move(2, 500);
        Check.due("only the third helps", 2, x.heals(5));
        x.move(3, 500);
        Check.due("none helps", Check.NONE, x.heals(100));
        Check.refused("budget 0", Check.ARGUMENT, x, () -> x.heals(0));
        Check.refused("budget 101", Check.ARGUMENT, x, () -> x.heals(101));
    }

    /** Promise 33: the smallest number of several; TIME is 0 at least, and less than 1. */
    private static void healsTies() {
        MaxplusJunction x = Nets.of(0, 10, 10, 0, 0);
        x.arc(0, 2, 20, 0, 0);
        x.arc(0, 1, 20, 0, 0);
        x.horizon(1);
        Check.due("both help as much", 0, x.heals(5));
        Check.due("both help all", 0, x.heals(100));
        x.move(1, 9);
        Check.due("the second helps more", 1, x.heals(100));
        Check.due("by 10 both help as much", 0, x.heals(10));
        x.arc(3, 4, 1, 0, 0);
        x.delay(3, 0, 200);
        x.arc(4, 1, 1, 1, 0);
        x.live(0, false);
        x.live(1, false);
        Check.due("from 1 to 0, not below", 2, x.heals(100));
        x.live(1, true);
        Check.due("11 minutes of arc 1 are more than 1 of arc 2", 1, x.heals(100));
        x.live(1, false);
        x.delay(4, 0, 200);
        Check.due("one minute more than its own", 2, x.heals(100));
        x.delay(4, 0, 201);
        Check.due("its own lateness is as much", Check.NONE, x.heals(100));
        Check.due("time as it was", 1, x.ofArc(2, 2));
    }

    /** Promises 29 to 34: nothing is changed by what is asked. */
    private static void nothingIsChanged() {
        MaxplusJunction x = new MaxplusJunction();
        x.lay(4, 31);
        x.storm(12, 60);
        int arcs = x.arc(0, 3, 5, 1, 3) + 1;
        x.arc(3, 0, 5, 1, 3);
        x.pair(arcs - 1, arcs);
        for (int arc = 0; arc < arcs; arc++) {
            if (x.ofArc(arc, 4) == 2) {
                x.riders(arc, 1, true);
            }
        }
        long before = x.digest();
        Check.due("the digest again", before, x.digest());
        x.best(0);
        Check.due("behind best()", before, x.digest());
        for (int arc = 0; arc <= arcs; arc++) {
            x.without(arc);
            Check.due("behind without()", before, x.digest());
        }
        x.wave(2, 2, 77);
        Check.due("behind wave()", before, x.digest());
        x.wouldMake(99);
        Check.due("behind wouldMake()", before, x.digest());
        x.heals(50);
        Check.due("behind heals()", before, x.digest());
        x.isSound();
        x.free(0, 30);
        x.power(0, 0, 30);
        x.ride(0, 0, 1);
        x.crews(5);
        Check.due("behind all else", before, x.digest());
    }

    /** Promise 34. */
    private static void isSound() {
        Check.due("of nothing", true, new MaxplusJunction().isSound());
        for (int seed = 0; seed < 100; seed += 7) {
            MaxplusJunction x = new MaxplusJunction();
            x.lay(1 + seed % 4, seed);
            Check.due("laid", true, x.isSound());
            x.storm(seed, 100);
            Check.due("stormed", true, x.isSound());
            x.period(500);
            x.make();
            Check.due("made", true, x.isSound());
            Check.due("it holds", 1, x.rings(4));
            x.clear();
            Check.due("nothing is late", 0, x.day(1));
            Check.due("quiet", true, x.isSound());
        }
    }

    /** Promise 35: numbers that the document alone tells. */
    private static void digestOfNothing() {
        // PERIOD, rings, day; six lines without anything; sound.
        int[] numbers = new int[1 + 7 + 8 + 24 + 1];
        int[] begin = {60, 0, 1, 60, 1, 1, 0, 0, 0, 0, 0, 0, 0, 6, 0, 0};
        System.arraycopy(begin, 0, numbers, 0, begin.length);
        numbers[numbers.length - 1] = 1;
        long d = 58285;
        for (int number : numbers) {
            d = d * 31 + number;
        }
        Check.due("of nothing", d, new MaxplusJunction().digest());
    }

    /** Promise 35: by the answers of the other methods. */
    private static void digest() {
        for (int seed = 0; seed < 100; seed += 9) {
            MaxplusJunction x = new MaxplusJunction();
            x.lay(2, seed);
            x.arc(0, 3, 30, 1, 3);
            x.arc(3, 0, 31, 1, 3);
            int arcs = x.arc(1, 3, 31, 1, 2) + 1;
            x.pair(arcs - 3, arcs - 2);
            x.storm(seed, 50);
            x.period(40 + seed);
            x.make();
            int count = x.ofLine(0, 0) + x.ofLine(1, 0);
            StringBuilder all = new StringBuilder();
            all.append(40 + seed);
            for (int what = 0; what < 7; what++) {
                all.append(' ').append(x.rings(what));
            }
            for (int what = 0; what < 8; what++) {
                all.append(' ').append(x.day(what));
            }
            for (int departure = 0; departure < count; departure++) {
                for (int what = 0; what < 8; what++) {
                    all.append(' ').append(x.ofDeparture(departure, what));
                }
                all.append(' ').append(x.free(departure, 5)).append(' ').append(x.healing(departure, 0));
                for (int turn = 0; turn < 6; turn++) {
                    all.append(' ').append(x.at(departure, turn, 1));
                    all.append(' ').append(x.at(departure, turn, 4)).append(' ').append(x.at(departure, turn, 5));
                }
            }
            for (int arc = 0; arc < arcs; arc++) {
                all.append(' ').append(x.ofArc(arc, 6)).append(' ').append(x.ofArc(arc, 7));
                all.append(' ').append(x.ofArc(arc, 9));
            }
            for (int line = 0; line < 6; line++) {
                for (int what = 0; what < 4; what++) {
                    all.append(' ').append(x.ofLine(line, what));
                }
            }
            all.append(x.isSound() ? " 1" : " 0");
            long d = 58285;
            for (String number : all.toString().split(" ")) {
                d = d * 31 + Integer.parseInt(number);
            }
            Check.due("digest of seed " + seed, d, x.digest());
        }
    }
}
