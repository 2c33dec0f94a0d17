/**
 * The edges that the document names of those who ride, lines and crews (sections 5 and 6, promises 26 to
 * 28), a sentence each.
 */
public final class RideEdgesTest {
    public static void main(String[] args) {
        whereItBegins();
        whereItBeginsComesSooner();
        withoutAWay();
        kindsThatAreRidden();
        turnsOfTheDayAlone();
        turnsOfTheDayByEachShift();
        brokenAndJustCaught();
        brokenAndMissed();
        brokenAndMissedWhateverRealIs();
        brokenAtTheEndOfTheDay();
        brokenOnesOneBehindTheOther();
        leastRealOfTurns();
        brokenBehindTheLongestDay();
        longestRide();
        rideThroughAllTurns();
        linesWithoutDepartures();
        linesCauseAndSuffer();
        crewsOfNothing();
        crewsWithJustEnoughRest();
        crewsOfLeastAndGreatestRest();
        crewsOfLiveRunsAlone();
        crewsGoOnWhereTheyEnded();
        crewsByReal();
        crewsBeyondTheDay();
        crewsAreAsFewAsCanBe();
        crewsGoOnOnceEach();
        crewsOfTurnsThatBeginOutOfOrder();
        crewsOfAllThatCanBe();
        Check.end("RideEdgesTest");
    }

    /** "(that one can come to, too)": without any ARC. */
    private static void whereItBegins() {
        MaxplusJunction x = Nets.of(999, 5);
        x.horizon(12);
        x.delay(0, 11, 500);
        for (int turn = 0; turn < 12; turn++) {
            int late = turn == 11 ? 500 : 0;
            Check.due("turn " + turn, 999 + 60 * turn + late, x.ride(0, turn, 0));
            Check.due("turn " + turn + " of the other one", 5 + 60 * turn, x.ride(1, turn, 1));
            Check.due("no way", Check.NONE, x.ride(0, turn, 1));
        }
    }

    /** "ARRIVAL at a DEPARTURE is the least REAL of its TURNS": a later TURN may be the sooner one. */
    private static void whereItBeginsComesSooner() {
        MaxplusJunction x = Nets.of(0);
        x.arc(0, 0, 1, 1, Nets.CONNECTION);
        x.live(0, false);
        x.delay(0, 0, 500);
        Check.due("missed at turn 1, at turn 2 by 120", 120, x.ride(0, 0, 0));
        Check.due("from turn 1 on", 60, x.ride(0, 1, 0));
        x.horizon(2);
        Check.due("turn 2 is not in the day", 500, x.ride(0, 0, 0));
    }

    /** "NONE without one" */
    private static void withoutAWay() {
        MaxplusJunction x = Nets.of(0, 10, 20);
        x.arc(0, 1, 10, 0, Nets.RUN);
        Check.due("against the arcs", Check.NONE, x.ride(1, 0, 0));
        Check.due("to one that none comes to", Check.NONE, x.ride(0, 0, 2));
        Check.due("a way", 10, x.ride(0, 0, 1));
        x.live(0, false);
        Check.due("a broken run", Check.NONE, x.ride(0, 0, 1));
    }

    /** "goes by ARCS of the KINDS 0 and 2" */
    private static void kindsThatAreRidden() {
        int[] live = {15, Check.NONE, 15, Check.NONE};
        int[] broken = {Check.NONE, Check.NONE, 15, Check.NONE};
        for (int kind = 0; kind < 4; kind++) {
            MaxplusJunction x = Nets.of(0, 15, 30);
            x.arc(0, 1, 10, 0, kind);
            x.arc(1, 2, 10, 0, Nets.RUN);
            Check.due("live, kind " + kind, live[kind], x.ride(0, 0, 1));
            Check.due("and on, kind " + kind, live[kind] < 0 ? Check.NONE : 30, x.ride(0, 0, 2));
            x.live(0, false);
            Check.due("broken, kind " + kind, broken[kind], x.ride(0, 0, 1));
            Check.due("broken and on, kind " + kind, broken[kind] < 0 ? Check.NONE : 30, x.ride(0, 0, 2));
        }
    }

    /** "One can only take TURNS of the DAY." */
    private static void turnsOfTheDayAlone() {
        MaxplusJunction x = Nets.of(0, 20);
        x.arc(0, 1, 10, 1, Nets.RUN);
        for (int turns = 1; turns <= 12; turns++) {
            x.horizon(turns);
            Check.due("from the last turn of " + turns, Check.NONE, x.ride(0, turns - 1, 1));
            if (turns > 1) {
                Check.due("from that ahead of it", 20 + 60 * (turns - 1), x.ride(0, turns - 2, 1));
            }
            Check.due("behind the day", Check.INDEX, Answers.of(x, "ride", 0, turns, 1));
        }
    }

    /** "to the TURN k + SHIFT of the second one" */
    private static void turnsOfTheDayByEachShift() {
        for (int shift = 0; shift < 3; shift++) {
            for (int broken = 0; broken < 2; broken++) {
                MaxplusJunction x = Nets.of(0, 20);
                x.arc(0, 1, 10, shift, Nets.CONNECTION);
                x.live(0, broken == 0);
                for (int turn = 0; turn < 6; turn++) {
                    int want = turn + shift < 6 ? 20 + 60 * (turn + shift) : Check.NONE;
                    Check.due("from " + turn + " by " + shift, want, x.ride(0, turn, 1));
                }
            }
        }
    }

    /** "if REAL of that is no less than REAL of the TURN k and TIME together" */
    private static void brokenAndJustCaught() {
        for (int shift = 0; shift < 3; shift++) {
            MaxplusJunction x = Nets.of(0, 10);
            x.arc(0, 1, 10 + 60 * shift, shift, Nets.CONNECTION);
            x.live(0, false);
            Check.due("just as much", 10 + 60 * shift, x.ride(0, 0, 1));
            x.delay(0, 0, 1);
            Check.due("a minute less", 10 + 60 * (shift + 1), x.ride(0, 0, 1));
            x.delay(1, shift, 1);
            Check.due("both a minute late", 11 + 60 * shift, x.ride(0, 0, 1));
            x.delay(1, shift, 500);
            Check.due("caught, so it is not the next one", 510 + 60 * shift, x.ride(0, 0, 1));
        }
    }

    /** "otherwise to the TURN k + SHIFT + 1" */
    private static void brokenAndMissed() {
        for (int shift = 0; shift < 3; shift++) {
            MaxplusJunction x = Nets.of(0, 10);
            x.arc(0, 1, 300, shift, Nets.CONNECTION);
            x.live(0, false);
            for (int turn = 0; turn < 6; turn++) {
                int next = turn + shift + 1;
                Check.due("from " + turn + " by " + shift, next < 6 ? 10 + 60 * next : Check.NONE, x.ride(0, turn, 1));
            }
        }
    }

    /** "whatever its REAL is": sooner than one comes, and later than another one. */
    private static void brokenAndMissedWhateverRealIs() {
        MaxplusJunction x = Nets.of(0, 10);
        x.arc(0, 1, 10, 0, Nets.CONNECTION);
        x.live(0, false);
        x.delay(0, 0, 500);
        Check.due("at 510 to one of 70", 70, x.ride(0, 0, 1));
        x.delay(1, 1, 430);
        Check.due("at 510 to one of 500", 500, x.ride(0, 0, 1));
        x.delay(1, 1, 500);
        Check.due("at 510 to one of 570", 570, x.ride(0, 0, 1));
        x.delay(1, 0, 499);
        Check.due("at 510 not to one of 509", 570, x.ride(0, 0, 1));
        x.delay(1, 0, 500);
        Check.due("at 510 to one of 510", 510, x.ride(0, 0, 1));
    }

    /** "One can only take TURNS of the DAY": the last one missed, there is none behind it. */
    private static void brokenAtTheEndOfTheDay() {
        for (int turns = 1; turns <= 12; turns++) {
            MaxplusJunction x = Nets.of(0, 10);
            x.horizon(turns);
            x.arc(0, 1, 10, 0, Nets.CONNECTION);
            x.live(0, false);
            Check.due("the last one, caught", 60 * turns - 50, x.ride(0, turns - 1, 1));
            x.delay(0, turns - 1, 1);
            Check.due("the last one, missed", Check.NONE, x.ride(0, turns - 1, 1));
        }
    }

    /** The same by each SHIFT, where H is as great as it can be. */
    private static void brokenBehindTheLongestDay() {
        for (int shift = 0; shift < 3; shift++) {
            MaxplusJunction x = Nets.of(0, 10);
            x.horizon(12);
            x.arc(0, 1, 10 + 60 * shift, shift, Nets.CONNECTION);
            x.live(0, false);
            for (int turn = 0; turn < 12; turn++) {
                int next = turn + shift;
                Check.due("caught at " + next, next < 12 ? 10 + 60 * next : Check.NONE, x.ride(0, turn, 1));
                x.delay(0, turn, 1);
                int missed = next + 1;
                Check.due("missed at " + next, missed < 12 ? 10 + 60 * missed : Check.NONE, x.ride(0, turn, 1));
            }
        }
    }

    /** One after the other, each of them missed by a minute. */
    private static void brokenOnesOneBehindTheOther() {
        MaxplusJunction x = Nets.many(6);
        for (int number = 0; number < 5; number++) {
            x.arc(number, number + 1, 1, 0, Nets.CONNECTION);
            x.live(number, false);
        }
        Check.due("five are missed", 300, x.ride(0, 0, 5));
        Check.due("four are missed", 240, x.ride(1, 0, 5));
        Check.due("a turn too late", Check.NONE, x.ride(0, 1, 5));
        x.move(3, 1);
        Check.due("one is caught", 240, x.ride(0, 0, 5));
    }

    /** "the least REAL of its TURNS that one can come to", by whichever way. */
    private static void leastRealOfTurns() {
        MaxplusJunction x = Nets.of(0, 30, 60);
        x.arc(0, 1, 10, 0, Nets.RUN);
        x.arc(1, 2, 10, 0, Nets.RUN);
        x.arc(0, 2, 10, 1, Nets.RUN);
        Check.due("by way of 1", 60, x.ride(0, 0, 2));
        x.live(1, false);
        Check.due("a turn later", 120, x.ride(0, 0, 2));
        x.live(1, true);
        x.delay(2, 0, 59);
        Check.due("119 are less than 120", 119, x.ride(0, 0, 2));
        x.delay(2, 0, 61);
        Check.due("120 are less than 121", 120, x.ride(0, 0, 2));
    }

    /** From the first TURN of a DEPARTURE through all DEPARTURES and TURNS to the last one. */
    private static void longestRide() {
        MaxplusJunction x = Nets.many(14);
        x.horizon(12);
        for (int number = 12; number >= 0; number--) {
            x.arc(number, number + 1, 1, number == 5 ? 1 : 0, Nets.RUN);
        }
        x.arc(13, 0, 1, 1, Nets.CONNECTION);
        Check.due("at turn 1, 7 minutes behind 6", 60 + 7, x.ride(0, 0, 13));
        Check.due("back at the least one", 0, x.ride(0, 0, 0));
        Check.due("from the last one but two", 60 * 11 + 7, x.ride(0, 10, 13));
        Check.due("from the last one", Check.NONE, x.ride(0, 11, 13));
    }

    /** The one TURN of the last DEPARTURE that is not late is the last of all that one can come to. */
    private static void rideThroughAllTurns() {
        MaxplusJunction x = Nets.chain(14, 1);
        x.live(0, false);
        x.arc(12, 0, 1, 1, Nets.RUN);
        x.arc(12, 13, 1, 0, Nets.RUN);
        // The same ways once more, so that one comes to each TURN twice.
        for (int number = 0; number < 13; number++) {
            x.arc(number, (number + 1) % 13, 1, number == 12 ? 1 : 0, Nets.RUN);
        }
        x.period(13);
        x.horizon(12);
        Check.due("the first turn", 13, x.ride(0, 0, 13));
        for (int turn = 0; turn < 11; turn++) {
            x.delay(13, turn, 500);
        }
        Check.due("the last turn", 13 * 11 + 13, x.ride(0, 0, 13));
        x.delay(13, 11, 500);
        Check.due("the first turn again", 500, x.ride(0, 0, 13));
    }

    /** "3 the greatest LATE of its TURNS (0 without any)", "0 how many DEPARTURES it has" */
    private static void linesWithoutDepartures() {
        MaxplusJunction x = new MaxplusJunction();
        x.departure(2, 0, 1);
        x.delay(0, 0, 500);
        for (int line = 0; line < 6; line++) {
            int[] want = line == 2 ? new int[] {1, 500, 500, 500} : new int[] {0, 0, 0, 0};
            Check.dueEach(x, "ofLine", new Object[] {line}, want);
        }
        x.clear();
        Check.dueEach(x, "ofLine", new Object[] {2}, 1, 0, 0, 0);
    }

    /** "A LINE CAUSES the MINUTES of its DEPARTURES, and SUFFERS LATE of all their TURNS." */
    private static void linesCauseAndSuffer() {
        MaxplusJunction x = new MaxplusJunction();
        x.departure(0, 0, 9);
        x.departure(5, 10, 9);
        x.departure(0, 20, 9);
        x.departure(5, 30, 9);
        for (int number = 0; number < 3; number++) {
            x.arc(number, number + 1, 9, 0, Nets.RUN);
        }
        x.horizon(1);
        x.delay(0, 0, 10);
        Check.dueEach(x, "ofLine", new Object[] {0}, 2, 10 + 9 + 8 + 7, 18, 10);
        Check.dueEach(x, "ofLine", new Object[] {5}, 2, 0, 16, 9);
        x.delay(1, 0, 9);
        Check.dueEach(x, "ofLine", new Object[] {0}, 2, 10, 18, 10);
        Check.dueEach(x, "ofLine", new Object[] {5}, 2, 9 + 8 + 7, 16, 9);
        x.delay(3, 0, 500);
        Check.dueEach(x, "ofLine", new Object[] {5}, 2, 9 + 8 + 500, 509, 500);
    }

    /** No RUNS, no CREWS. */
    private static void crewsOfNothing() {
        Check.due("without departures", 0, new MaxplusJunction().crews(0));
        MaxplusJunction x = Nets.of(0, 10);
        Check.due("without arcs", 0, x.crews(100));
        x.arc(0, 1, 1, 0, Nets.STOCK);
        x.arc(0, 1, 1, 0, Nets.CONNECTION);
        x.arc(0, 1, 1, 0, Nets.TRACK);
        Check.due("of other kinds", 0, x.crews(0));
    }

    /** "no sooner than its end and REST together": just then is right. */
    private static void crewsWithJustEnoughRest() {
        MaxplusJunction x = Nets.of(0, 50);
        x.horizon(1);
        x.arc(0, 1, 20, 0, Nets.RUN);
        x.arc(1, 0, 20, 1, Nets.RUN);
        Check.due("a rest of 30", 1, x.crews(30));
        Check.due("a rest of 31", 2, x.crews(31));
        Check.due("no rest", 1, x.crews(0));
        x.move(1, 20);
        Check.due("no rest is just right", 1, x.crews(0));
        Check.due("a rest of 1 is too much", 2, x.crews(1));
        x.move(0, 1);
        Check.due("a minute too late", 1, x.crews(0));
        Check.due("as the arc makes it wait", 21, x.at(1, 0, 1));
    }

    /** "rest is not 0 to 100" */
    private static void crewsOfLeastAndGreatestRest() {
        MaxplusJunction x = Nets.of(0);
        x.period(160);
        x.horizon(12);
        x.arc(0, 0, 60, 1, Nets.RUN);
        Check.due("none", 1, x.crews(0));
        Check.due("100 is just right", 1, x.crews(100));
        x.period(159);
        Check.due("99 is just right", 1, x.crews(99));
        Check.due("100 is too much: two by turns", 2, x.crews(100));
        x.period(60);
        Check.due("none is just right", 1, x.crews(0));
        Check.due("1 is too much", 2, x.crews(1));
        Check.due("60 is just right for two", 2, x.crews(60));
        Check.due("61 is too much for two", 3, x.crews(61));
    }

    /** "all RUNS that are LIVE" */
    private static void crewsOfLiveRunsAlone() {
        MaxplusJunction x = Nets.many(2);
        for (int number = 0; number < 4; number++) {
            x.arc(0, 1, 1, 0, Nets.RUN);
        }
        Check.due("4 of 6 turns", 24, x.crews(0));
        for (int number = 3; number >= 0; number--) {
            x.live(number, false);
            Check.due(number + " of 6 turns", 6 * number, x.crews(0));
        }
        MaxplusJunction y = Nets.of(0, 30, 50);
        y.arc(0, 1, 20, 0, Nets.RUN);
        y.arc(1, 2, 20, 0, Nets.RUN);
        y.arc(2, 0, 70, 1, Nets.RUN);
        Check.due("all by one", 1, y.crews(0));
        y.live(0, false);
        Check.due("none comes to 1: six go on at 2", 6, y.crews(0));
        y.live(0, true);
        y.live(1, false);
        Check.due("none comes to 2: five go on at 0", 7, y.crews(0));
        y.live(2, false);
        Check.due("none leaves 1 and 2: none goes on", 6, y.crews(0));
    }

    /** "another one that begins at the DEPARTURE where the first one ended" */
    private static void crewsGoOnWhereTheyEnded() {
        MaxplusJunction x = Nets.of(0, 10, 10, 20);
        x.horizon(1);
        x.arc(0, 1, 5, 0, Nets.RUN);
        x.arc(2, 3, 5, 0, Nets.RUN);
        Check.due("not from another one", 2, x.crews(0));
        x.arc(1, 3, 5, 0, Nets.RUN);
        Check.due("from the same one", 2, x.crews(0));
        x.arc(1, 3, 5, 0, Nets.STOCK);
        x.arc(1, 2, 5, 0, Nets.CONNECTION);
        Check.due("not by other kinds", 2, x.crews(0));
        x.arc(1, 3, 5, 0, Nets.RUN);
        Check.due("one goes on, one does not", 3, x.crews(0));
    }

    /** "begins .. at REAL of the TURN k, and ends at the second DEPARTURE, TIME later": not as planned. */
    private static void crewsByReal() {
        MaxplusJunction x = Nets.of(0, 30);
        x.horizon(1);
        x.arc(0, 1, 20, 2, Nets.RUN);
        x.arc(1, 0, 20, 2, Nets.RUN);
        Check.due("as planned", 1, x.crews(10));
        x.delay(0, 0, 1);
        Check.due("ends a minute later", 2, x.crews(10));
        x.delay(1, 0, 1);
        Check.due("begins a minute later, too", 1, x.crews(10));
        x.delay(0, 0, 500);
        Check.due("the other way round", 1, x.crews(100));
    }

    /** RUNS of all TURNS of the DAY are worked, also those that end at a TURN behind it. */
    private static void crewsBeyondTheDay() {
        for (int turns = 1; turns <= 12; turns++) {
            MaxplusJunction x = Nets.many(2);
            x.horizon(turns);
            x.arc(0, 1, 300, 2, Nets.RUN);
            Check.due("of " + turns + " turns", turns, x.crews(0));
        }
    }

    /** "how many CREWS are needed at least": who goes on to which one is chosen well. */
    private static void crewsAreAsFewAsCanBe() {
        MaxplusJunction x = Nets.of(0, 0, 30, 40, 50, 60);
        x.horizon(1);
        x.arc(0, 2, 10, 0, Nets.RUN);
        x.arc(1, 2, 30, 0, Nets.RUN);
        x.arc(2, 3, 10, 0, Nets.RUN);
        Check.due("two come, one leaves", 2, x.crews(0));
        x.arc(2, 4, 10, 0, Nets.RUN);
        Check.due("two come, two leave", 2, x.crews(0));
        Check.due("only the first one has had its rest", 3, x.crews(1));
        Check.due("as has it with 20", 3, x.crews(20));
        Check.due("none has", 4, x.crews(21));
        MaxplusJunction y = Nets.of(0, 100, 0);
        y.horizon(2);
        y.arc(0, 1, 50, 2, Nets.RUN);
        y.arc(2, 1, 120, 2, Nets.RUN);
        y.arc(1, 0, 10, 2, Nets.RUN);
        // Four end at 1, at 50, 110, 120 and 180; two begin there, at 100 and 160.
        Check.due("50 goes on to 100, and 110 or 120 to 160", 4, y.crews(0));
        Check.due("50 goes on to 100, and 110 to 160", 4, y.crews(50));
        Check.due("50 goes on to 160", 5, y.crews(51));
    }

    /** "each RUN and TURN worked by one": who has gone on does not go on to another one, too. */
    private static void crewsGoOnOnceEach() {
        MaxplusJunction x = Nets.of(0, 100, 200);
        x.horizon(2);
        x.arc(0, 1, 50, 0, Nets.RUN);
        x.arc(1, 2, 50, 0, Nets.RUN);
        x.delay(0, 1, 500);
        x.arc(1, 2, 40, 0, Nets.RUN);
        // At 1 they end at 50 and 610, and begin at 100 and 610, two each time.
        Check.due("one of two, then one of two", 6 - 2, x.crews(0));
        Check.due("one of four", 6 - 1, x.crews(1));
        x.live(1, false);
        Check.due("one of one, then one of one", 4 - 2, x.crews(0));
        Check.due("one of one", 4 - 1, x.crews(50));
        Check.due("one of one, the second one", 4 - 1, x.crews(51));
        x.live(0, false);
        x.delay(0, 1, 0);
        x.arc(0, 1, 20, 2, Nets.RUN);
        x.delay(1, 1, 300);
        Check.due("they end at 20 and 80, and begin at 100 and 460", 4 - 2, x.crews(20));
        Check.due("81 and more is too much for the first", 4 - 1 - 1, x.crews(80));
        Check.due("so the second one takes one of two", 4 - 1, x.crews(81));
    }

    /** The sooner one to begin is the sooner one that another one can go on to, whichever TURN it is. */
    private static void crewsOfTurnsThatBeginOutOfOrder() {
        MaxplusJunction x = Nets.of(0, 70, 0);
        x.horizon(3);
        x.period(60);
        x.arc(0, 1, 60, 0, Nets.RUN);
        x.arc(1, 2, 10, 0, Nets.RUN);
        x.live(0, false);
        x.arc(0, 1, 60, 2, Nets.RUN);
        x.delay(1, 0, 230);
        x.delay(0, 1, 170);
        x.delay(0, 2, 500);
        // At 1 they end at 60, 290 and 680, and begin at 300, 130 and 190.
        Check.due("60 goes on to 130, and 290 to 300", 6 - 2, x.crews(0));
        Check.due("the same by 10", 6 - 2, x.crews(10));
        Check.due("60 alone by 11", 6 - 1, x.crews(11));
        x.delay(1, 1, 500);
        // Now they begin at 300, 630 and 190.
        Check.due("60 goes on to 190, and 290 to 300 or 630", 6 - 2, x.crews(0));
        Check.due("60 goes on to 190, and 290 to 630", 6 - 2, x.crews(100));
        x.delay(1, 2, 400);
        // Now they begin at 300, 630 and 590.
        Check.due("60 goes on to 300, and 290 to 590", 6 - 2, x.crews(100));
        x.delay(0, 0, 90);
        Check.due("150 goes on to 300, and 290 to 590", 6 - 2, x.crews(90));
    }

    /** 36 RUNS of 12 TURNS. */
    private static void crewsOfAllThatCanBe() {
        MaxplusJunction x = Nets.many(1);
        x.horizon(12);
        x.period(500);
        for (int number = 0; number < 36; number++) {
            x.arc(0, 0, 300, 1, Nets.RUN);
        }
        Check.due("each goes on to the next turn", 36, x.crews(100));
        x.period(399);
        Check.due("each goes on to the turn behind that", 72, x.crews(100));
        MaxplusJunction y = Nets.many(2);
        y.horizon(12);
        for (int number = 0; number < 36; number++) {
            y.arc(0, 1, 300, 0, Nets.RUN);
        }
        Check.due("none goes on", 432, y.crews(0));
    }
}
