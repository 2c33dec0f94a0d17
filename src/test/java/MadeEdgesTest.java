/** The edges that the document names of timetables that are made (promises 9 and 32) and laid (10). */
public final class MadeEdgesTest {
    public static void main(String[] args) {
        withoutArcs();
        leastPeriodIsPeriod();
        leastPeriodIsAFraction();
        offsetsUpTo999();
        offsetsOfALongWay();
        leastOffsets();
        brokenArcsDoNotCount();
        whatCanNotBeChangesNothing();
        madeHolds();
        laidWithOneDeparture();
        laidByEachPeriod();
        laidOnWhatWasTold();
        laidOfAllSeeds();
        Check.end("MadeEdgesTest");
    }

    /** make() and wouldMake() of the same PERIOD answer the same. */
    private static void dueMade(String what, int want, Answers.Maker net, int period) {
        Check.due(what + ", would", want, net.make().wouldMake(period));
        MaxplusJunction x = net.make();
        x.period(period);
        Check.due(what + ", made", want, x.make());
        int greatest = 0;
        for (int number = 0; number < x.ofLine(0, 0); number++) {
            greatest = Math.max(greatest, x.ofDeparture(number, 1));
        }
        if (want != Check.NONE) {
            Check.due(what + ", the greatest OFFSET then", want, greatest);
        }
        Check.unchanged(what + ", only asked", net, y -> y.wouldMake(period));
    }

    /** "each DEPARTURE has the least OFFSET of 0 or more": 0 where no ARC comes. */
    private static void withoutArcs() {
        for (int period : new int[] {1, 60, 500}) {
            dueMade("one departure by " + period, 0, () -> Nets.of(999), period);
            dueMade("14 departures by " + period, 0, () -> Nets.many(14), period);
            dueMade("two of 999 by " + period, 0, () -> Nets.of(999, 999), period);
        }
    }

    /** "that can be, if LEAST PERIOD is no more than PERIOD": just as much can be. */
    private static void leastPeriodIsPeriod() {
        Answers.Maker net = () -> {
            MaxplusJunction x = Nets.of(5, 5, 5);
            x.arc(0, 1, 40, 0, Nets.RUN);
            x.arc(1, 0, 60, 1, Nets.STOCK);
            x.arc(1, 2, 3, 0, Nets.RUN);
            return x;
        };
        dueMade("a ring of 100 by 100", 43, net, 100);
        dueMade("a ring of 100 by 99", Check.NONE, net, 99);
        dueMade("a ring of 100 by 101", 43, net, 101);
        dueMade("a ring of 100 by 1", Check.NONE, net, 1);
        dueMade("a ring of 100 by 500", 43, net, 500);
    }

    /** The same where LEAST PERIOD is no whole number. */
    private static void leastPeriodIsAFraction() {
        Answers.Maker net = () -> {
            MaxplusJunction x = Nets.of(0, 0);
            x.arc(0, 1, 61, 1, Nets.RUN);
            x.arc(1, 0, 60, 1, Nets.RUN);
            return x;
        };
        dueMade("121 of 2 by 60", Check.NONE, net, 60);
        dueMade("121 of 2 by 61", 0, net, 61);
        Answers.Maker longer = () -> {
            MaxplusJunction x = Nets.of(0, 0);
            x.arc(0, 1, 101, 0, Nets.RUN);
            x.arc(1, 0, 20, 2, Nets.RUN);
            return x;
        };
        dueMade("101 and 20 of 2 by 60", Check.NONE, longer, 60);
        dueMade("101 and 20 of 2 by 61", 101, longer, 61);
        Answers.Maker alone = () -> {
            MaxplusJunction x = Nets.of(7);
            x.arc(0, 0, 300, 2, Nets.RUN);
            return x;
        };
        dueMade("one alone, 300 of 2 by 149", Check.NONE, alone, 149);
        dueMade("one alone, 300 of 2 by 150", 0, alone, 150);
    }

    /** "and all these OFFSETS are 999 or less" */
    private static void offsetsUpTo999() {
        for (int last = 98; last <= 101; last++) {
            int time = last;
            dueMade("900 and " + last, last <= 99 ? 900 + last : Check.NONE, () -> {
                MaxplusJunction x = Nets.chain(4, 300);
                x.departure(0, 3, 1);
                x.arc(3, 4, time, 0, Nets.RUN);
                return x;
            }, 60);
        }
        Answers.Maker net = () -> {
            MaxplusJunction x = Nets.chain(4, 300);
            x.departure(0, 3, 1);
            x.departure(0, 3, 1);
            x.arc(3, 4, 250, 1, Nets.RUN);
            x.arc(4, 5, 300, 2, Nets.RUN);
            return x;
        };
        dueMade("1150 less 151, and 300 less 302 behind it", 999, net, 151);
        dueMade("1150 less 150, and 300 less 300 behind it", Check.NONE, net, 150);
    }

    /** The same by as long a way as there can be, against the numbers of the ARCS. */
    private static void offsetsOfALongWay() {
        dueMade("13 times 76", 988, () -> Nets.chain(14, 76), 60);
        dueMade("13 times 77", Check.NONE, () -> Nets.chain(14, 77), 60);
        for (int back = 11; back <= 14; back++) {
            int time = back;
            dueMade("13 times 76, and " + back + " back", back <= 12 ? 988 : Check.NONE, () -> {
                MaxplusJunction x = Nets.chain(14, 76);
                x.arc(13, 0, time, 2, Nets.STOCK);
                return x;
            }, 500);
        }
    }

    /** "the least OFFSET of 0 or more by which no LIVE ARC has a SLACK below 0" */
    private static void leastOffsets() {
        MaxplusJunction x = Nets.of(500, 1, 2, 3);
        x.arc(0, 1, 20, 0, Nets.RUN);
        x.arc(0, 1, 90, 1, Nets.RUN);
        x.arc(1, 2, 121, 2, Nets.RUN);
        x.arc(1, 3, 59, 1, Nets.RUN);
        Check.due("the greatest one, which is not the last one", 31, x.make());
        int[] offsets = {0, 30, 31, 29};
        for (int number = 0; number < 4; number++) {
            Check.due("offset " + number, offsets[number], x.ofDeparture(number, 1));
        }
        int[] slacks = {10, 0, 0, 0};
        for (int arc = 0; arc < 4; arc++) {
            Check.due("slack " + arc, slacks[arc], x.ofArc(arc, 7));
        }
        MaxplusJunction y = Nets.of(1, 2, 3);
        y.arc(2, 0, 70, 0, Nets.RUN);
        y.arc(2, 1, 69, 0, Nets.RUN);
        Check.due("the greatest one is the first one", 70, y.make());
        Check.due("by 59: 31, 34 and 31", 34, x.wouldMake(59));
        Check.due("by 71: 20, 0 and 8", 20, x.wouldMake(71));
    }

    /** ".. no LIVE ARC": those that are BROKEN neither move nor hinder. */
    private static void brokenArcsDoNotCount() {
        dueMade("a broken ring and a broken way", 0, () -> {
            MaxplusJunction x = Nets.of(5, 6);
            x.arc(0, 1, 300, 0, Nets.RUN);
            x.arc(1, 0, 300, 1, Nets.RUN);
            x.arc(1, 1, 300, 1, Nets.RUN);
            for (int arc = 0; arc < 3; arc++) {
                x.live(arc, false);
            }
            return x;
        }, 1);
    }

    /** "NONE, if it can not be (nothing is changed then)", for both reasons. */
    private static void whatCanNotBeChangesNothing() {
        Answers.Maker ring = () -> {
            MaxplusJunction x = Nets.chain(6, 20);
            x.arc(5, 0, 21, 2, Nets.STOCK);
            for (int number = 0; number < 6; number++) {
                x.move(number, 100 * number);
            }
            x.storm(7, 90);
            return x;
        };
        Check.due("121 of 2", Check.NONE, ring.make().make());
        Check.unchanged("121 of 2", ring, x -> x.make());
        Answers.Maker far = () -> {
            MaxplusJunction x = Nets.chain(5, 250);
            x.move(4, 999);
            x.storm(7, 90);
            return x;
        };
        Check.due("1000", Check.NONE, far.make().make());
        Check.unchanged("1000", far, x -> x.make());
    }

    /** What was made HOLDS, and made again is the same. */
    private static void madeHolds() {
        for (int seed = 0; seed < 100; seed += 3) {
            int its = seed;
            Answers.Maker net = () -> {
                MaxplusJunction x = new MaxplusJunction();
                x.lay(1 + its % 4, its);
                x.period(100);
                return x;
            };
            MaxplusJunction x = net.make();
            Check.due("seed " + seed + " can be made", true, x.make() >= 0);
            Check.due("seed " + seed + " holds", 1, x.rings(4));
            Answers.Maker made = () -> {
                MaxplusJunction y = net.make();
                y.make();
                return y;
            };
            Check.unchanged("seed " + seed + " made again", made, y -> y.make());
        }
    }

    /** "as long as there is no DEPARTURE"; "IllegalStateException if there is a DEPARTURE" */
    private static void laidWithOneDeparture() {
        Check.refused("one departure", Check.STATE, () -> Nets.of(0), x -> x.lay(1, 0));
        Check.refused("one departure", Check.STATE, () -> Nets.of(0), x -> x.lay(4, 99));
        Answers.Maker laid = () -> {
            MaxplusJunction x = new MaxplusJunction();
            x.lay(4, 99);
            return x;
        };
        Check.refused("laid before", Check.STATE, laid, x -> x.lay(4, 99));
    }

    /** "DRAWN modulo PERIOD": of the least PERIOD and of the greatest one, which is more than any DRAWN. */
    private static void laidByEachPeriod() {
        for (int period : new int[] {1, 2, 112, 113, 500}) {
            MaxplusJunction x = new MaxplusJunction();
            x.period(period);
            // The row of 5 is 76, 110, 104, 12, 108, ..
            x.lay(1, 5);
            Check.due("offset 0 by " + period, 110 % period, x.ofDeparture(0, 1));
            Check.due("offset 1 by " + period, 12 % period, x.ofDeparture(1, 1));
        }
    }

    /** Laid on what was told before: PERIOD and H stay, and no LATENESS comes. */
    private static void laidOnWhatWasTold() {
        MaxplusJunction x = new MaxplusJunction();
        x.period(77);
        x.horizon(3);
        Check.due("two arcs", 2, x.lay(1, 5));
        Check.due("H stays", 3, x.day(5));
        Check.due("no lateness", 0, x.day(7));
        Check.due("none is broken", 0, x.day(6));
        Check.due("period stays", 77, x.period(1));
        Check.due("departures go on behind it", 2, x.departure(0, 0, 0));
        Check.due("arcs go on behind it", 2, x.arc(2, 0, 1, 1, Nets.RUN));
    }

    /** lines of 1 to 4 and seeds of 0 to 99: so many LINES, 2 or 3 DEPARTURES each, and the ARCS of them. */
    private static void laidOfAllSeeds() {
        for (int seed = 0; seed < 100; seed++) {
            for (int lines = 1; lines <= 4; lines++) {
                MaxplusJunction x = new MaxplusJunction();
                int arcs = x.lay(lines, seed);
                int departures = 0;
                for (int line = 0; line < 6; line++) {
                    int count = x.ofLine(line, 0);
                    departures += count;
                    Check.due("line " + line + " of " + lines, line < lines, count == 2 || count == 3);
                }
                Check.due("arcs: one for each departure, one for each line but the first",
                        departures + lines - 1, arcs);
                Check.due("the next arc", arcs, x.arc(0, 0, 1, 1, 0));
                Check.due("the next departure", departures, x.departure(0, 0, 0));
            }
        }
    }
}
