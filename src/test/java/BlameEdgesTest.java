/**
 * The edges that the document names of BLAME, COST and what a day answers (section 3, promises 16 and
 * 23 to 25), a sentence each.
 */
public final class BlameEdgesTest {
    private static final Object[] NOTHING = {};

    public static void main(String[] args) {
        itsOwnIfAsMuch();
        notItsOwnIfLess();
        theSmallestNumber();
        onlyThoseThatComeToJustThat();
        notOfTurnsBelowZero();
        notOfBrokenArcs();
        notOfArcsToAnotherOne();
        theTurnThatOneComesToAtLast();
        rootThatIsNotLate();
        noRootIfNotLate();
        minutesOfAllTurns();
        costOfWeights();
        costOfBrokenConnectionsAlone();
        costAsGreatAsItCanBe();
        settlesAt0();
        settlesBehindEachTurn();
        settlesAtTheLastLateTurn();
        greatestLate();
        brokenArcsOfAllKinds();
        boardOfOneTurn();
        boardOfTheDocument();
        boardOfTheGreatestNumbers();
        Check.end("BlameEdgesTest");
    }

    private static void dueRoot(String what, MaxplusJunction x, int departure, int turn, int root, int ofTurn) {
        Check.due(what + ", departure", root, x.at(departure, turn, 4));
        Check.due(what + ", turn", ofTurn, x.at(departure, turn, 5));
    }

    /** "if its own LATENESS is as much as LATE, it is its own": also where an ARC comes to just that. */
    private static void itsOwnIfAsMuch() {
        MaxplusJunction x = Nets.of(0, 10);
        x.arc(0, 1, 10, 0, Nets.RUN);
        x.delay(0, 0, 20);
        x.delay(1, 0, 20);
        Check.due("both are late by 20", 20, x.at(1, 0, 2));
        dueRoot("as much", x, 1, 0, 1, 0);
        x.delay(1, 0, 21);
        dueRoot("more than what comes", x, 1, 0, 1, 0);
        dueRoot("the first one's own", x, 0, 0, 0, 0);
    }

    /** "otherwise it is that of the TURN that made it so" */
    private static void notItsOwnIfLess() {
        MaxplusJunction x = Nets.of(0, 10);
        x.arc(0, 1, 10, 0, Nets.RUN);
        x.delay(0, 0, 20);
        for (int minutes : new int[] {0, 1, 19}) {
            x.delay(1, 0, minutes);
            dueRoot("own lateness of " + minutes, x, 1, 0, 0, 0);
        }
    }

    /** "of the LIVE ARCS that come to just its REAL the one with the smallest number" */
    private static void theSmallestNumber() {
        for (int smallest = 0; smallest < 3; smallest++) {
            MaxplusJunction x = Nets.of(0, 0, 0, 30);
            for (int n = 0; n < 3; n++) {
                int from = (smallest + n) % 3;
                x.arc(from, 3, 30 - from, 0, Nets.RUN);
                x.delay(n, 0, 10 + n);
            }
            Check.due("all three come to 40", 40, x.at(3, 0, 1));
            dueRoot("the first arc told", x, 3, 0, smallest, 0);
            x.live(0, false);
            dueRoot("the second one", x, 3, 0, (smallest + 1) % 3, 0);
            x.live(1, false);
            dueRoot("the third one", x, 3, 0, (smallest + 2) % 3, 0);
        }
    }

    /** "that come to just its REAL": a smaller number that comes to a minute less is not to blame. */
    private static void onlyThoseThatComeToJustThat() {
        MaxplusJunction x = Nets.of(0, 0, 30);
        x.arc(0, 2, 30, 0, Nets.RUN);
        x.arc(1, 2, 30, 0, Nets.RUN);
        x.delay(0, 0, 9);
        x.delay(1, 0, 10);
        dueRoot("9 and 10", x, 2, 0, 1, 0);
        x.delay(0, 0, 10);
        dueRoot("10 and 10", x, 2, 0, 0, 0);
        x.delay(0, 0, 11);
        dueRoot("11 and 10", x, 2, 0, 0, 0);
    }

    /** "the TURN k - SHIFT of the first one", where there is one. */
    private static void notOfTurnsBelowZero() {
        MaxplusJunction x = Nets.of(0, 0);
        x.arc(0, 1, 120, 2, Nets.RUN);
        x.arc(0, 1, 60, 1, Nets.RUN);
        x.delay(0, 0, 5);
        x.delay(0, 1, 5);
        Check.due("no turn is ahead of turn 0", 0, x.at(1, 0, 2));
        dueRoot("of turn 1 by one shift", x, 1, 1, 0, 0);
        dueRoot("of turn 2 by two shifts, as much by one", x, 1, 2, 0, 0);
        x.delay(0, 0, 4);
        dueRoot("of turn 2 by one shift", x, 1, 2, 0, 1);
        dueRoot("of turn 3 by two shifts", x, 1, 3, 0, 1);
        x.horizon(12);
        x.delay(0, 9, 1);
        dueRoot("of turn 11 by two shifts", x, 1, 11, 0, 9);
    }

    /** "of the LIVE ARCS" */
    private static void notOfBrokenArcs() {
        MaxplusJunction x = Nets.of(0, 0, 30);
        x.arc(0, 2, 30, 0, Nets.RUN);
        x.arc(1, 2, 30, 0, Nets.RUN);
        x.delay(0, 0, 10);
        x.delay(1, 0, 10);
        x.live(0, false);
        dueRoot("the one that is live", x, 2, 0, 1, 0);
        x.live(1, false);
        dueRoot("none", x, 2, 0, Check.NONE, Check.NONE);
        x.live(0, true);
        dueRoot("the other one", x, 2, 0, 0, 0);
    }

    /** "of the LIVE ARCS" to it: one to another DEPARTURE that comes there at just that minute is none of them. */
    private static void notOfArcsToAnotherOne() {
        MaxplusJunction x = Nets.of(0, 0, 40, 30);
        x.arc(0, 2, 30, 0, Nets.RUN);
        x.arc(1, 3, 30, 0, Nets.RUN);
        x.delay(0, 0, 10);
        x.delay(1, 0, 10);
        Check.due("40", 40, x.at(3, 0, 1));
        dueRoot("by its own arc", x, 3, 0, 1, 0);
    }

    /** A chain without SLACK that goes on to the TURN but one, the first one of all late. */
    private static MaxplusJunction roundAndRound() {
        MaxplusJunction x = Nets.chain(14, 10);
        for (int number = 0; number < 14; number++) {
            x.move(number, 10 * number);
        }
        x.arc(13, 0, 10, 2, Nets.STOCK);
        x.period(70);
        x.horizon(12);
        x.delay(0, 0, 500);
        return x;
    }

    /** "the DEPARTURE and TURN that one comes to at last", from the farthest one. */
    private static void theTurnThatOneComesToAtLast() {
        for (int turn = 0; turn < 12; turn++) {
            MaxplusJunction x = roundAndRound();
            boolean isLate = turn % 2 == 0;
            for (int departure = 0; departure < 14; departure++) {
                Check.due("late", isLate ? 500 : 0, x.at(departure, turn, 2));
                int root = isLate ? 0 : Check.NONE;
                dueRoot(departure + " of turn " + turn, x, departure, turn, root, root);
            }
        }
        MaxplusJunction x = roundAndRound();
        Check.due("minutes of 0", 500 * 14 * 6, x.ofDeparture(0, 6));
        x.delay(7, 6, 500);
        dueRoot("from its own on", x, 7, 6, 7, 6);
        dueRoot("ahead of it", x, 6, 6, 0, 0);
        dueRoot("to the last one", x, 13, 10, 7, 6);
        Check.due("minutes of 0 until then", 500 * (14 * 3 + 7), x.ofDeparture(0, 6));
        Check.due("minutes of 7", 500 * (14 * 2 + 7), x.ofDeparture(7, 6));
    }

    /** "or one that is not LATE": its MINUTES are those of what it made LATE. */
    private static void rootThatIsNotLate() {
        MaxplusJunction x = Nets.of(30, 0, 0);
        x.horizon(2);
        x.arc(0, 1, 10, 0, Nets.RUN);
        x.arc(1, 2, 1, 0, Nets.RUN);
        Check.due("not late itself", 0, x.at(0, 0, 2));
        dueRoot("not late itself", x, 0, 0, Check.NONE, Check.NONE);
        dueRoot("late by it", x, 1, 1, 0, 1);
        dueRoot("late by that", x, 2, 1, 0, 1);
        Check.due("minutes of one that is not late", 2 * (40 + 41), x.ofDeparture(0, 6));
        Check.due("minutes of one that is late", 0, x.ofDeparture(1, 6));
        Check.due("late of one that is not", 0, x.ofDeparture(0, 7));
        Check.due("all of it", 162, x.day(1));
        Check.due("sound", true, x.isSound());
    }

    /** "(NONE for both, if it is not LATE)" */
    private static void noRootIfNotLate() {
        MaxplusJunction x = Nets.of(0, 10);
        x.arc(0, 1, 10, 0, Nets.RUN);
        dueRoot("an arc comes to just its plan", x, 1, 0, Check.NONE, Check.NONE);
        x.delay(0, 0, 1);
        dueRoot("by one minute", x, 1, 0, 0, 0);
        dueRoot("its own minute", x, 0, 0, 0, 0);
        dueRoot("the next turn", x, 0, 1, Check.NONE, Check.NONE);
    }

    /** "MINUTES of a DEPARTURE: LATE of all TURNS whose ROOT is one of its TURNS, together." */
    private static void minutesOfAllTurns() {
        MaxplusJunction x = Nets.of(0, 10);
        x.arc(0, 1, 8, 0, Nets.RUN);
        Check.due("nothing is late", 0, x.ofDeparture(0, 6));
        for (int turn = 0; turn < 6; turn++) {
            x.delay(0, turn, 10 + turn);
        }
        x.delay(1, 5, 13);
        Check.due("10 to 15, and 8 to 12 behind them", 75 + 50, x.ofDeparture(0, 6));
        Check.due("13 of the last one", 13, x.ofDeparture(1, 6));
        Check.due("late of the first one", 75, x.ofDeparture(0, 7));
        Check.due("late of the second one", 63, x.ofDeparture(1, 7));
        x.delay(1, 5, 12);
        Check.due("13 of 15 less 2 are more than 12", 75 + 63, x.ofDeparture(0, 6));
        Check.due("none of the last one", 0, x.ofDeparture(1, 6));
    }

    /** "COST of a day: WEIGHT * LATE of all TURNS together" */
    private static void costOfWeights() {
        MaxplusJunction x = new MaxplusJunction();
        Check.due("of nothing", 0, x.day(0));
        x.departure(0, 0, 99);
        x.departure(0, 10, 0);
        x.departure(0, 20, 1);
        x.arc(0, 1, 10, 0, Nets.RUN);
        x.arc(1, 2, 10, 0, Nets.RUN);
        Check.due("nothing is late", 0, x.day(0));
        x.delay(0, 5, 500);
        Check.due("500 of each", 99 * 500 + 0 + 500, x.day(0));
        x.delay(0, 0, 1);
        Check.due("and 1 of each", 99 * 501 + 501, x.day(0));
    }

    /** "and RIDERS * PERIOD * H of all CONNECTIONS that are BROKEN" */
    private static void costOfBrokenConnectionsAlone() {
        MaxplusJunction x = Nets.of(0, 0);
        for (int kind = 0; kind < 4; kind++) {
            x.arc(0, 1, 1, 2, kind);
        }
        x.riders(2, 10, false);
        x.arc(0, 1, 1, 2, Nets.CONNECTION);
        x.riders(4, 7, true);
        x.live(0, false);
        x.live(1, false);
        x.live(3, false);
        Check.due("no connections", 0, x.day(0));
        x.live(2, false);
        Check.due("10 riders", 10 * 60 * 6, x.day(0));
        x.live(4, false);
        Check.due("17 riders", 17 * 60 * 6, x.day(0));
        x.horizon(1);
        Check.due("17 riders of one turn", 17 * 60, x.day(0));
        x.live(2, true);
        Check.due("7 riders of one turn", 7 * 60, x.day(0));
    }

    /** The greatest TIMES, WEIGHTS, RIDERS and H. */
    private static void costAsGreatAsItCanBe() {
        MaxplusJunction x = new MaxplusJunction();
        for (int number = 0; number < 14; number++) {
            x.departure(5, 0, 99);
        }
        for (int number = 0; number < 13; number++) {
            x.arc(number, number + 1, 300, 0, Nets.RUN);
        }
        x.arc(13, 0, 300, 1, Nets.RUN);
        for (int number = 14; number < 36; number++) {
            x.arc(0, 0, 300, 2, Nets.CONNECTION);
            x.riders(number, 99, false);
            x.live(number, false);
        }
        x.horizon(12);
        x.period(1);
        x.delay(0, 0, 500);
        int late = 0;
        for (int turn = 0; turn < 12; turn++) {
            for (int number = 0; number < 14; number++) {
                late += 500 + 4200 * turn + 300 * number - turn;
            }
        }
        Check.dueEach(x, "day", NOTHING, 99 * late + 22 * 99 * 12, late, 12, 168,
                500 + 4200 * 11 + 3900 - 11, 12, 22, 500);
        Check.due("all by the first turn", late, x.ofDeparture(0, 6));
        Check.dueEach(x, "ofLine", new Object[] {5}, 14, late, late, 500 + 4200 * 11 + 3900 - 11);
        x.period(500);
        x.clear();
        x.live(13, false);
        int lateOfOneTurn = 300 * 91;
        Check.due("by a period of 500", 99 * 12 * lateOfOneTurn + 22 * 99 * 500 * 12, x.day(0));
    }

    /** "0, if nothing ever is" */
    private static void settlesAt0() {
        Check.due("without departures", 0, new MaxplusJunction().day(2));
        for (int turns = 1; turns <= 12; turns++) {
            MaxplusJunction x = Nets.many(14);
            x.horizon(turns);
            Check.due("nothing is late", 0, x.day(2));
        }
    }

    /** "the first TURN from which on nothing is LATE (H, if something is LATE in the last one ..)" */
    private static void settlesBehindEachTurn() {
        for (int turns = 1; turns <= 12; turns++) {
            for (int turn = 0; turn < turns; turn++) {
                MaxplusJunction x = Nets.many(14);
                x.horizon(turns);
                x.delay(turn, turn, 1);
                Check.due("late in turn " + turn + " of " + turns, turn + 1, x.day(2));
                x.delay(13, 0, 500);
                Check.due("and in turn 0", turn + 1, x.day(2));
                Check.due("how many", 2, x.day(3));
            }
        }
    }

    /** The same: TURNS in between that are not LATE do not settle it, and LATE without LATENESS counts. */
    private static void settlesAtTheLastLateTurn() {
        MaxplusJunction x = Nets.of(0, 50);
        x.arc(0, 0, 50, 1, Nets.STOCK);
        x.arc(0, 1, 50, 2, Nets.RUN);
        x.delay(0, 0, 25);
        Check.due("25, 15 and 5", 3, x.day(2));
        x.delay(0, 3, 1);
        Check.due("and 1", 4, x.day(2));
        x.delay(0, 0, 0);
        Check.due("1 alone", 4, x.day(2));
        x.delay(0, 0, 200);
        Check.due("200, 190 .. 150 in the last one", 6, x.day(2));
        x.horizon(12);
        Check.due("200, 190 .. 90 in the last one", 12, x.day(2));
        x.delay(0, 0, 109);
        Check.due("109, 99 .. 9 in turn 10", 11, x.day(2));
        x.delay(0, 0, 110);
        Check.due("110, 100 .. 10 in turn 10, 0 in turn 11", 11, x.day(2));
        x.delay(0, 0, 111);
        Check.due("1 in turn 11", 12, x.day(2));
    }

    /** "4 the greatest LATE (0 without any)", "3 how many TURNS are LATE" */
    private static void greatestLate() {
        MaxplusJunction x = Nets.many(3);
        Check.due("without any", 0, x.day(4));
        Check.due("without departures", 0, new MaxplusJunction().day(4));
        x.delay(2, 5, 1);
        Check.due("1", 1, x.day(4));
        x.delay(1, 3, 500);
        x.delay(0, 0, 499);
        Check.due("500", 500, x.day(4));
        Check.due("three turns", 3, x.day(3));
    }

    /** "6 how many ARCS are BROKEN": of all KINDS, and of PAIRS. */
    private static void brokenArcsOfAllKinds() {
        MaxplusJunction x = Nets.of(0, 0);
        for (int number = 0; number < 36; number++) {
            x.arc(0, 1, 1, 2, number % 4);
        }
        Check.due("none", 0, x.day(6));
        x.pair(3, 7);
        Check.due("one of a pair", 1, x.day(6));
        x.live(7, true);
        Check.due("the other one of it", 1, x.day(6));
        for (int number = 0; number < 36; number++) {
            x.live(number, false);
        }
        Check.due("all", 36, x.day(6));
    }

    /** A blank stands between the TURNS of a board; of one TURN there is none. */
    private static void boardOfOneTurn() {
        MaxplusJunction x = Nets.of(999);
        x.horizon(1);
        Check.due("not late", "999", x.board(0));
        x.delay(0, 0, 1);
        Check.due("late", "1000+1", x.board(0));
    }

    /** ("0 65+5 120") */
    private static void boardOfTheDocument() {
        MaxplusJunction x = Nets.of(0);
        x.horizon(3);
        x.delay(0, 1, 5);
        Check.due("that of the document", "0 65+5 120", x.board(0));
    }

    /** The same by the greatest numbers, and with twelve TURNS. */
    private static void boardOfTheGreatestNumbers() {
        MaxplusJunction x = Nets.of(999);
        x.period(500);
        x.horizon(12);
        x.delay(0, 11, 500);
        Check.due("twelve turns", "999 1499 1999 2499 2999 3499 3999 4499 4999 5499 5999 6999+500", x.board(0));
        MaxplusJunction y = Nets.chain(14, 300);
        y.arc(13, 0, 300, 1, Nets.RUN);
        y.period(1);
        y.horizon(2);
        Check.due("the last one of a chain", "3900+3900 8100+8099", y.board(13));
        Check.due("the first one of a chain", "0 4200+4199", y.board(0));
    }
}
