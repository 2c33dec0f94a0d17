/** The edges that the document names of what would be (promises 30, 31 and 33 to 35), a sentence each. */
public final class WouldBeEdgesTest {
    public static void main(String[] args) {
        withoutOneThatIsLive();
        withoutOneThatIsBroken();
        withoutOneOfAPair();
        withoutEachKind();
        waveOfNone();
        waveBelow0();
        waveOfTheGreatest();
        waveHiddenAndHealed();
        healsNothing();
        healsByTheLeast();
        healsDownTo0();
        healsOnlyLiveArcs();
        healsTheSmallestNumber();
        healsByEachBudget();
        soundIfLeastPeriodIsPeriod();
        soundWithTheLeastLateness();
        soundIfItDoesNotHold();
        soundInAllStates();
        digestOfOneDeparture();
        digestOfAPair();
        digestWrapsAround();
        askingChangesNothing();
        Check.end("WouldBeEdgesTest");
    }

    /** "COST, if that ARC was BROKEN": RIDERS that would wait, LATE that would not be. */
    private static void withoutOneThatIsLive() {
        MaxplusJunction x = Nets.of(0, 0);
        x.arc(0, 1, 10, 0, Nets.CONNECTION);
        Check.due("as it is", 60, x.day(0));
        Check.due("none rides", 0, x.without(0));
        x.riders(0, 99, false);
        Check.due("99 ride", 99 * 60 * 6, x.without(0));
        x.arc(0, 1, 10, 0, Nets.RUN);
        Check.due("one of two as great", 60, x.without(1));
        Check.due("the other one", 99 * 60 * 6 + 60, x.without(0));
        Check.due("cost stays", 60, x.day(0));
        Check.due("it is live still", 2, x.ofArc(0, 6) + x.ofArc(1, 6));
    }

    /** "(as it is now, if it is BROKEN)" */
    private static void withoutOneThatIsBroken() {
        MaxplusJunction x = Nets.of(0, 0);
        x.arc(0, 1, 10, 0, Nets.CONNECTION);
        x.arc(0, 1, 300, 0, Nets.CONNECTION);
        x.riders(1, 2, true);
        x.live(1, false);
        Check.due("as it is", 60 + 2 * 60 * 6, x.day(0));
        Check.due("without it", 60 + 2 * 60 * 6, x.without(1));
        Check.due("it is broken still", 0, x.ofArc(1, 6));
        x.live(0, false);
        Check.due("both broken, the first", 2 * 60 * 6, x.without(0));
        Check.due("both broken, the second", 2 * 60 * 6, x.without(1));
    }

    /** "and all else was as it is": the other ARC of its PAIR stays BROKEN. */
    private static void withoutOneOfAPair() {
        MaxplusJunction x = Nets.of(0, 0);
        x.horizon(1);
        x.arc(0, 1, 10, 0, Nets.TRACK);
        x.arc(0, 1, 90, 0, Nets.TRACK);
        x.pair(0, 1);
        Check.due("as it is", 10, x.day(0));
        Check.due("without both", 0, x.without(0));
        Check.due("without the one that is broken", 10, x.without(1));
        x.live(1, true);
        Check.due("swapped", 90, x.day(0));
        Check.due("without the first one", 90, x.without(0));
        Check.due("without both", 0, x.without(1));
    }

    /** "if that ARC was BROKEN": of each KIND, the first one and the last one of 36. */
    private static void withoutEachKind() {
        for (int kind = 0; kind < 4; kind++) {
            MaxplusJunction x = Nets.many(2);
            x.horizon(1);
            for (int number = 0; number < 36; number++) {
                x.arc(0, 1, number == 0 || number == 35 ? 300 : 290, 0, kind);
            }
            Check.due("one of two", 300, x.without(0));
            x.live(35, false);
            Check.due("the only one", 290, x.without(0));
            x.live(0, false);
            x.live(35, true);
            Check.due("the other one", 290, x.without(35));
            Check.due("one that makes nothing", 300, x.without(7));
        }
    }

    /** "if that TURN had so much LATENESS": as much as it has, or 0 where there is none. */
    private static void waveOfNone() {
        MaxplusJunction x = Nets.of(0, 10);
        x.arc(0, 1, 10, 0, Nets.RUN);
        for (int turn = 0; turn < 6; turn++) {
            Check.due("0 of none", 0, x.wave(0, turn, 0));
            x.delay(0, turn, 7);
            Check.due("7 of 7", 0, x.wave(0, turn, 7));
            Check.due("8 of 7", 2, x.wave(0, turn, 8));
            Check.due("6 of 7", -2, x.wave(0, turn, 6));
        }
        Check.due("lateness is as it was", 42, x.day(7));
    }

    /** "(also below 0)" */
    private static void waveBelow0() {
        MaxplusJunction x = Nets.chain(14, 10);
        for (int number = 0; number < 14; number++) {
            x.move(number, 10 * number);
        }
        x.delay(0, 5, 500);
        Check.due("all of it gone", -7000, x.wave(0, 5, 0));
        Check.due("one minute less", -14, x.wave(0, 5, 499));
        x.delay(7, 5, 499);
        Check.due("until the one that is late itself", -7 * 500 - 7, x.wave(0, 5, 0));
        Check.due("that one, hidden", 0, x.wave(7, 5, 0));
        Check.due("that one as much", 0, x.wave(7, 5, 500));
    }

    /** "minutes is not 0 to 500" */
    private static void waveOfTheGreatest() {
        MaxplusJunction x = Nets.many(14);
        x.horizon(12);
        x.period(1);
        for (int number = 0; number < 14; number++) {
            x.arc(number, (number + 1) % 14, 1, number == 13 ? 1 : 0, Nets.RUN);
        }
        // Each TURN is 13 minutes later than it should be behind the one ahead, and each DEPARTURE one more.
        Check.due("the first turn of the first one", 500 * 14 * 12, x.wave(0, 0, 500));
        Check.due("the last turn of the last one", 500 - 13 - 13 * 11, x.wave(13, 11, 500));
    }

    /** "by how much LATE of all TURNS together would be more": what heals is not more. */
    private static void waveHiddenAndHealed() {
        MaxplusJunction x = Nets.of(0, 15);
        x.arc(0, 1, 10, 0, Nets.RUN);
        Check.due("5 heal", 5, x.wave(0, 0, 5));
        Check.due("6: one goes on", 7, x.wave(0, 0, 6));
        x.delay(1, 0, 20);
        Check.due("25 are hidden behind 20", 25, x.wave(0, 0, 25));
        Check.due("26: one goes on", 27, x.wave(0, 0, 26));
    }

    /** "NONE, if none makes it less" */
    private static void healsNothing() {
        Check.due("without departures", Check.NONE, new MaxplusJunction().heals(1));
        MaxplusJunction x = Nets.of(0, 10);
        x.delay(0, 0, 500);
        Check.due("without arcs", Check.NONE, x.heals(100));
        x.arc(1, 0, 30, 1, Nets.RUN);
        Check.due("it makes nothing late", Check.NONE, x.heals(100));
        x.delay(0, 0, 0);
        Check.due("nothing is late", Check.NONE, x.heals(100));
        x.arc(0, 1, 20, 0, Nets.RUN);
        Check.due("10 late by it", 1, x.heals(1));
        x.arc(0, 1, 20, 0, Nets.RUN);
        Check.due("10 late by either one", Check.NONE, x.heals(100));
    }

    /** "the one by which LATE of all TURNS together would become the least": by a single minute. */
    private static void healsByTheLeast() {
        for (int more = -1; more <= 1; more++) {
            MaxplusJunction x = Nets.of(0, 0, 0);
            x.arc(0, 1, 50, 0, Nets.RUN);
            x.arc(0, 2, 50 + more, 0, Nets.RUN);
            Check.due("50 and " + (50 + more), more > 0 ? 1 : 0, x.heals(100));
            Check.due("by less than that both help as much", 0, x.heals(49));
        }
    }

    /** "if its TIME was less by that (here 0 at least)" */
    private static void healsDownTo0() {
        MaxplusJunction x = Nets.of(60, 60, 0);
        x.horizon(1);
        x.arc(0, 1, 1, 0, Nets.RUN);
        Check.due("from 1 to 0 by 1", 0, x.heals(1));
        Check.due("from 1 to 0 by 100", 0, x.heals(100));
        x.arc(0, 2, 3, 0, Nets.RUN);
        Check.due("3 minutes are more than 1", 1, x.heals(3));
        x.move(1, 0);
        // 1 is late by 61 now and 2 by 63; without TIME both are late by 60 all the same.
        Check.due("1 and 1 of 3", 0, x.heals(1));
        Check.due("1 and 2 of 3", 1, x.heals(2));
        Check.due("1 and 3 of 3", 1, x.heals(100));
    }

    /** "of all LIVE ARCS" */
    private static void healsOnlyLiveArcs() {
        MaxplusJunction x = Nets.of(0, 0, 0);
        x.arc(0, 1, 300, 0, Nets.RUN);
        x.arc(0, 1, 200, 0, Nets.TRACK);
        x.arc(0, 2, 50, 0, Nets.RUN);
        Check.due("the first one", 0, x.heals(100));
        x.live(0, false);
        Check.due("the second one", 1, x.heals(100));
        x.live(1, false);
        Check.due("the third one", 2, x.heals(100));
        x.live(2, false);
        Check.due("none", Check.NONE, x.heals(100));
    }

    /** "it is that with the smallest number" */
    private static void healsTheSmallestNumber() {
        MaxplusJunction x = Nets.many(14);
        for (int number = 0; number < 36; number++) {
            x.arc(0, 1 + number % 12, 100, 0, number % 4);
        }
        Check.due("three come to each: none helps", Check.NONE, x.heals(100));
        for (int number = 0; number < 36; number++) {
            if (number / 12 != number % 3) {
                x.live(number, false);
            }
        }
        Check.due("one comes to each, the first is 0", 0, x.heals(100));
        x.live(0, false);
        Check.due("then 3", 3, x.heals(100));
    }

    /** "budget is not 1 to 100": what 1 and 100 do. */
    private static void healsByEachBudget() {
        MaxplusJunction x = Nets.of(0, 0, 0, 0);
        x.horizon(1);
        x.arc(0, 1, 150, 0, Nets.RUN);
        x.arc(0, 2, 150, 0, Nets.RUN);
        x.arc(2, 3, 20, 0, Nets.RUN);
        Check.due("1: 2 and 3 are less late", 1, x.heals(1));
        Check.due("100: 2 and 3 are less late", 1, x.heals(100));
        x.move(2, 149);
        x.move(3, 169);
        Check.due("1 of 1 is less than 1 of 2 and 1 of 3", 1, x.heals(1));
        Check.due("2 of 1 is as much", 0, x.heals(2));
        Check.due("3 of 1 is more", 0, x.heals(3));
        Check.due("100 of 1 is more", 0, x.heals(100));
        x.live(0, false);
        Check.due("without the first one", 1, x.heals(100));
        x.move(3, 170);
        Check.due("1 of 2 alone", 1, x.heals(1));
    }

    /** "if it HOLDS, LEAST PERIOD is no more than PERIOD": just as much is right. */
    private static void soundIfLeastPeriodIsPeriod() {
        for (int period : new int[] {1, 60, 300}) {
            MaxplusJunction x = Nets.of(0);
            x.period(period);
            x.arc(0, 0, period, 1, Nets.RUN);
            Check.due("it holds", 1, x.rings(4));
            Check.due("margin", 0, x.rings(2));
            Check.due("not stable", 0, x.rings(3));
            Check.due("sound all the same", true, x.isSound());
        }
    }

    /** "if the timetable HOLDS and there is no LATENESS, nothing is LATE": of one minute something is. */
    private static void soundWithTheLeastLateness() {
        MaxplusJunction x = Nets.of(0, 10);
        x.arc(0, 1, 10, 0, Nets.RUN);
        Check.due("no lateness", true, x.isSound());
        x.delay(1, 5, 1);
        Check.due("of one minute", true, x.isSound());
        Check.due("one is late", 1, x.day(3));
        x.delay(1, 5, 0);
        x.delay(0, 0, 1);
        Check.due("of one minute that goes on", true, x.isSound());
        Check.due("two are late", 2, x.day(3));
    }

    /** "if the timetable HOLDS ..": what is LATE without LATENESS is right where it does not. */
    private static void soundIfItDoesNotHold() {
        MaxplusJunction x = Nets.of(0, 10);
        x.arc(0, 1, 11, 0, Nets.RUN);
        Check.due("it does not hold", 0, x.rings(4));
        Check.due("all of 1 are late", 6, x.day(3));
        Check.due("sound", true, x.isSound());
        x.arc(1, 0, 300, 1, Nets.RUN);
        Check.due("margin below 0", -251, x.rings(2));
        Check.due("sound with that, too", true, x.isSound());
    }

    /** "Returns whether all is SOUND": in each state that can be told. */
    private static void soundInAllStates() {
        Check.due("without departures", true, new MaxplusJunction().isSound());
        for (int seed = 0; seed < 100; seed += 3) {
            MaxplusJunction x = new MaxplusJunction();
            int arcs = x.lay(1 + seed % 4, seed);
            x.arc(0, 1, 1 + 3 * seed, 1, Nets.TRACK);
            x.arc(1, 0, 1 + 3 * seed, 1, Nets.TRACK);
            x.pair(arcs, arcs + 1);
            for (int period : new int[] {1, 30, 60, 500}) {
                x.period(period);
                Check.due("told", true, x.isSound());
                x.live(arcs + 1, true);
                x.make();
                Check.due("made", true, x.isSound());
                x.storm(seed, 100);
                Check.due("stormed", true, x.isSound());
                x.live(arcs, true);
                x.horizon(1 + seed % 12);
                Check.due("swapped, with another H", true, x.isSound());
                x.clear();
                Check.due("cleared", true, x.isSound());
            }
        }
    }

    private static long digestOf(int... numbers) {
        long d = 58285;
        for (int number : numbers) {
            d = d * 31 + number;
        }
        return d;
    }

    /** The numbers of a digest, one by one, told by the document alone. */
    private static void digestOfOneDeparture() {
        MaxplusJunction x = new MaxplusJunction();
        x.departure(2, 7, 3);
        x.horizon(2);
        x.delay(0, 1, 4);
        x.arc(0, 0, 61, 2, Nets.CONNECTION);
        x.arc(0, 0, 10, 1, Nets.STOCK);
        // FREE of the TURNS 0 to 6 is 0, 10, 61, 71, 122, 132, 183.
        long want = digestOf(60,
                61, 2, 29, 1, 1, 1, 31,
                12, 4, 2, 1, 4, 2, 0, 4,
                2, 7, 3, 2, 2, 1, 4, 4, 132, 0, 7, -1, -1, 71, 0, 1,
                1, 59, -1, 1, 50, -1,
                0, 0, 0, 0, 0, 0, 0, 0, 1, 4, 4, 4, 0, 0, 0, 0, 0, 0, 0, 0, 0, 0, 0, 0,
                1);
        Check.due("of one departure", want, x.digest());
    }

    /** The same with a PAIR, and a timetable that does not HOLD. */
    private static void digestOfAPair() {
        MaxplusJunction x = new MaxplusJunction();
        x.departure(0, 10, 1);
        x.departure(5, 0, 2);
        x.horizon(1);
        x.period(50);
        x.arc(0, 1, 5, 0, Nets.TRACK);
        x.arc(1, 0, 6, 1, Nets.TRACK);
        x.pair(0, 1);
        long want = digestOf(50,
                0, 1, 50, 1, 0, 0, 0,
                30, 15, 1, 1, 15, 1, 1, 0,
                0, 10, 1, 0, 1, 0, 15, 0, 0, -1, 10, -1, -1,
                5, 0, 2, 1, 0, 0, 0, 15, 5, -1, 15, 0, 0,
                1, -15, 1, 0, 54, 0,
                1, 15, 0, 0, 0, 0, 0, 0, 0, 0, 0, 0, 0, 0, 0, 0, 0, 0, 0, 0, 1, 0, 15, 15,
                1);
        Check.due("of a pair", want, x.digest());
    }

    /** "which wraps around as a 64-bit integer": as 31 to the power of 41 does, so the sign is any. */
    private static void digestWrapsAround() {
        int below = 0;
        for (int seed = 0; seed < 40; seed++) {
            MaxplusJunction x = new MaxplusJunction();
            x.lay(4, seed);
            if (x.digest() < 0) {
                below++;
            }
            MaxplusJunction y = new MaxplusJunction();
            y.lay(4, seed);
            Check.due("of the same net", x.digest(), y.digest());
            y.delay(0, 0, 1);
            Check.due("of another net", true, x.digest() != y.digest());
        }
        Check.due("some are below 0, some are not", true, below > 0 && below < 40);
    }

    /** "what would be (nothing is changed)" */
    private static void askingChangesNothing() {
        Answers.Maker net = () -> {
            MaxplusJunction x = new MaxplusJunction();
            int arcs = x.lay(3, 44);
            x.arc(0, 1, 50, 1, Nets.TRACK);
            x.arc(1, 0, 50, 1, Nets.TRACK);
            x.pair(arcs, arcs + 1);
            x.storm(3, 100);
            return x;
        };
        for (int arc = 0; arc < 5; arc++) {
            int its = arc;
            Check.unchanged("without(" + arc + ")", net, x -> x.without(its));
        }
        Check.unchanged("wave(0, 0, 0)", net, x -> x.wave(0, 0, 0));
        Check.unchanged("wave(1, 5, 500)", net, x -> x.wave(1, 5, 500));
        Check.unchanged("wouldMake(1)", net, x -> x.wouldMake(1));
        Check.unchanged("wouldMake(500)", net, x -> x.wouldMake(500));
        Check.unchanged("heals(1)", net, x -> x.heals(1));
        Check.unchanged("heals(100)", net, x -> x.heals(100));
        Check.unchanged("isSound()", net, x -> x.isSound());
        Check.unchanged("digest()", net, x -> x.digest());
    }
}
