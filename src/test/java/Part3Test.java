/** "3. A day": a method for each sentence of this part of the document's "Description". */
public final class Part3Test {
    public static void main(String[] args) {
        turnsOfADay();
        lateness();
        real();
        realOfAChain();
        late();
        blame();
        root();
        rootThatIsNotLate();
        minutes();
        cost();
        settles();
        Check.end("Part3Test");
    }

    /** "A DAY has the TURNS 0 to H - 1 of all DEPARTURES (H is 1 to 12; 6 at first)." */
    private static void turnsOfADay() {
        MaxplusJunction x = Nets.of(0, 7);
        x.period(10);
        Check.due("at first", 6, x.day(5));
        Check.due("the first one", "0 10 20 30 40 50", x.board(0));
        Check.due("the second one", "7 17 27 37 47 57", x.board(1));
        int before = 6;
        for (int turns : new int[] {1, 12, 3}) {
            Check.due("h before", before, x.horizon(turns));
            Check.due("h", turns, x.day(5));
            Check.due("the last turn", 10 * turns - 3, x.at(1, turns - 1, 1));
            Check.refused("one more", Check.INDEX, x, () -> x.at(1, turns, 1));
            before = turns;
        }
        for (int turns : new int[] {0, 13, -1}) {
            Check.refused("h of " + turns, Check.ARGUMENT, x, () -> x.horizon(turns));
        }
    }

    /** "LATENESS of TURNS can be told: a TURN begins no sooner than PLAN and that together." */
    private static void lateness() {
        MaxplusJunction x = Nets.of(5, 20);
        x.period(10);
        x.horizon(3);
        x.arc(0, 1, 15, 0, Nets.RUN);
        Check.due("before", 0, x.delay(1, 1, 8));
        Check.due("one turn alone", "20 38+8 40", x.board(1));
        Check.due("before", 8, x.delay(1, 1, 500));
        Check.due("the most", "20 530+500 40", x.board(1));
        x.delay(0, 1, 12);
        x.delay(1, 1, 8);
        Check.due("no sooner, but later", "20 42+12 40", x.board(1));
        Check.due("its own is as it was told", 8, x.at(1, 1, 3));
        x.delay(1, 1, 0);
        Check.due("none", "20 42+12 40", x.board(1));
    }

    /**
     * "REAL of a TURN is the greatest of its PLAN and LATENESS together, and of REAL of the TURN k - SHIFT of
     * the first one and TIME together, of all LIVE ARCS to it."
     */
    private static void real() {
        MaxplusJunction x = Nets.of(0, 2, 30);
        x.horizon(3);
        x.arc(0, 2, 40, 0, Nets.RUN);
        x.arc(1, 2, 95, 1, Nets.STOCK);
        x.arc(1, 2, 170, 2, Nets.CONNECTION);
        dueReal("40, then 97, then 172", x, 40, 100, 172);
        x.delay(0, 1, 3);
        dueReal("0 is later", x, 40, 103, 172);
        x.delay(1, 1, 20);
        dueReal("1 is later: 82 and 95", x, 40, 103, 177);
        x.delay(2, 0, 10);
        dueReal("just its own", x, 40, 103, 177);
        x.delay(2, 0, 11);
        dueReal("more of its own", x, 41, 103, 177);
        x.live(1, false);
        dueReal("without arc 1", x, 41, 103, 172);
        x.live(2, false);
        dueReal("without arc 2", x, 41, 103, 160);
        x.live(0, false);
        dueReal("without any", x, 41, 90, 150);
    }

    private static void dueReal(String what, MaxplusJunction x, int... want) {
        for (int turn = 0; turn < want.length; turn++) {
            Check.due(what + ", turn " + turn, want[turn], x.at(2, turn, 1));
        }
    }

    /** The same, along ARCS with a SHIFT of 0 that were told in any order, and on to the next TURNS. */
    private static void realOfAChain() {
        MaxplusJunction x = Nets.of(30, 10, 20, 0);
        x.horizon(3);
        x.arc(2, 0, 10, 0, Nets.RUN);
        x.arc(3, 1, 10, 0, Nets.RUN);
        x.arc(1, 2, 10, 0, Nets.RUN);
        x.arc(0, 3, 25, 1, Nets.STOCK);
        x.delay(3, 0, 50);
        Check.due("the first one of the chain", "50+50 105+45 160+40", x.board(3));
        Check.due("the next one", "60+50 115+45 170+40", x.board(1));
        Check.due("and the next one", "70+50 125+45 180+40", x.board(2));
        Check.due("the last one", "80+50 135+45 190+40", x.board(0));
    }

    /** "LATE of it is REAL less PLAN." */
    private static void late() {
        MaxplusJunction x = Nets.of(13, 20);
        x.arc(0, 1, 17, 0, Nets.RUN);
        x.delay(0, 2, 25);
        for (int departure = 0; departure < 2; departure++) {
            for (int turn = 0; turn < 6; turn++) {
                int want = turn == 2 ? 25 + 10 * departure : 10 * departure;
                Check.due("late", want, x.at(departure, turn, 2));
                Check.due("real less plan", want, x.at(departure, turn, 1) - x.at(departure, turn, 0));
            }
        }
        Check.due("of all turns", 110, x.day(1));
        Check.due("of those of 1", 85, x.ofDeparture(1, 7));
    }

    private static void dueRoot(String what, MaxplusJunction x, int departure, int turn, int root, int ofTurn) {
        Check.due(what + ", departure", root, x.at(departure, turn, 4));
        Check.due(what + ", turn", ofTurn, x.at(departure, turn, 5));
    }

    /**
     * "BLAME of a TURN that is LATE: if its own LATENESS is as much as LATE, it is its own; otherwise it is
     * that of the TURN that made it so: of the LIVE ARCS that come to just its REAL the one with the smallest
     * number."
     */
    private static void blame() {
        MaxplusJunction x = Nets.of(0, 0, 20);
        x.arc(0, 2, 19, 0, Nets.RUN);
        x.arc(1, 2, 20, 0, Nets.RUN);
        x.arc(0, 2, 20, 0, Nets.RUN);
        x.delay(0, 1, 9);
        x.delay(1, 1, 9);
        dueRoot("arcs 1 and 2 come to 89, arc 0 to 88", x, 2, 1, 1, 1);
        x.live(1, false);
        dueRoot("arc 2 alone", x, 2, 1, 0, 1);
        x.live(1, true);
        x.delay(2, 1, 8);
        dueRoot("8 of its own are less than 9", x, 2, 1, 1, 1);
        x.delay(2, 1, 9);
        dueRoot("9 are as much", x, 2, 1, 2, 1);
        x.delay(2, 1, 10);
        dueRoot("10 are more than comes", x, 2, 1, 2, 1);
        dueRoot("not late", x, 2, 2, -1, -1);
        x.delay(2, 1, 0);
        x.delay(1, 1, 8);
        dueRoot("only arc 2 comes to 89", x, 2, 1, 0, 1);
    }

    /**
     * "(The ROOT of a TURN is the DEPARTURE and TURN that one comes to at last: one with its own LATENESS as
     * much as LATE, or one that is not LATE.)" The first half.
     */
    private static void root() {
        MaxplusJunction x = Nets.of(30, 10, 20, 0);
        x.arc(2, 0, 10, 0, Nets.RUN);
        x.arc(3, 1, 10, 0, Nets.RUN);
        x.arc(1, 2, 10, 0, Nets.RUN);
        x.arc(0, 3, 25, 1, Nets.STOCK);
        x.delay(1, 0, 50);
        x.delay(2, 2, 40);
        dueRoot("its own", x, 1, 0, 1, 0);
        dueRoot("one arc on", x, 2, 0, 1, 0);
        dueRoot("two arcs on", x, 0, 0, 1, 0);
        dueRoot("a turn on", x, 3, 1, 1, 0);
        dueRoot("to itself, a turn on", x, 1, 1, 1, 0);
        dueRoot("two turns on, late by 40", x, 1, 2, 1, 0);
        dueRoot("40 of its own", x, 2, 2, 2, 2);
        dueRoot("behind that", x, 0, 2, 2, 2);
        dueRoot("a turn behind that", x, 3, 3, 2, 2);
        dueRoot("before all", x, 3, 0, -1, -1);
    }

    /** The second half: a TURN that is LATE by an ARC with a SLACK below 0 alone. */
    private static void rootThatIsNotLate() {
        MaxplusJunction x = Nets.of(0, 10, 20);
        x.horizon(2);
        x.arc(0, 1, 14, 0, Nets.RUN);
        x.arc(1, 2, 10, 0, Nets.RUN);
        for (int turn = 0; turn < 2; turn++) {
            dueRoot("not late", x, 0, turn, -1, -1);
            dueRoot("late by 4", x, 1, turn, 0, turn);
            dueRoot("late by 4, an arc on", x, 2, turn, 0, turn);
        }
        Check.due("its minutes", 16, x.ofDeparture(0, 6));
        x.delay(1, 0, 3);
        dueRoot("3 are less than 4", x, 2, 0, 0, 0);
        x.delay(1, 0, 4);
        dueRoot("4 are as much", x, 2, 0, 1, 0);
    }

    /** "MINUTES of a DEPARTURE: LATE of all TURNS whose ROOT is one of its TURNS, together." */
    private static void minutes() {
        MaxplusJunction x = Nets.of(0, 10, 20);
        x.arc(0, 1, 8, 0, Nets.RUN);
        x.arc(1, 2, 8, 0, Nets.RUN);
        x.delay(0, 0, 10);
        x.delay(0, 3, 3);
        x.delay(1, 1, 5);
        x.delay(2, 1, 3);
        x.delay(2, 5, 1);
        int[] want = {10 + 8 + 6 + 3 + 1, 5, 3 + 1};
        int[] late = {13, 8 + 5 + 1, 6 + 3 + 1};
        for (int departure = 0; departure < 3; departure++) {
            Check.due("minutes of " + departure, want[departure], x.ofDeparture(departure, 6));
            Check.due("late of " + departure, late[departure], x.ofDeparture(departure, 7));
        }
    }

    /**
     * "COST of a day: WEIGHT * LATE of all TURNS together, and RIDERS * PERIOD * H of all CONNECTIONS that are
     * BROKEN."
     */
    private static void cost() {
        MaxplusJunction x = new MaxplusJunction();
        x.departure(0, 0, 7);
        x.departure(0, 10, 20);
        x.departure(0, 10, 0);
        x.period(50);
        x.horizon(4);
        x.arc(0, 1, 10, 0, Nets.CONNECTION);
        x.arc(0, 2, 10, 0, Nets.CONNECTION);
        x.arc(0, 2, 9, 0, Nets.RUN);
        x.riders(0, 3, true);
        x.riders(1, 2, false);
        Check.due("nothing", 0, x.day(0));
        x.delay(0, 1, 6);
        x.delay(0, 3, 1);
        Check.due("7 * 7 and 20 * 7", 189, x.day(0));
        x.live(1, false);
        Check.due("and 2 * 50 * 4", 589, x.day(0));
        x.live(0, false);
        Check.due("7 * 7 and 5 * 50 * 4", 1049, x.day(0));
        x.live(2, false);
        Check.due("a broken run costs nothing", 1049, x.day(0));
        x.horizon(2);
        Check.due("7 * 6 and 5 * 50 * 2", 542, x.day(0));
        x.period(1);
        Check.due("7 * 6 and 5 * 1 * 2", 52, x.day(0));
    }

    /**
     * "It SETTLES at the first TURN from which on nothing is LATE (H, if something is LATE in the last one;
     * 0, if nothing ever is)."
     */
    private static void settles() {
        MaxplusJunction x = Nets.of(0, 10);
        Check.due("nothing ever", 0, x.day(2));
        x.delay(1, 0, 1);
        Check.due("turn 0", 1, x.day(2));
        x.delay(0, 3, 1);
        Check.due("turns 0 and 3", 4, x.day(2));
        x.delay(1, 4, 1);
        Check.due("turns 0, 3 and 4", 5, x.day(2));
        x.delay(0, 5, 1);
        Check.due("the last one", 6, x.day(2));
        x.horizon(12);
        Check.due("not the last one any more", 6, x.day(2));
        x.delay(0, 11, 9);
        Check.due("that of 12", 12, x.day(2));
        Check.due("all of it", 5, x.clear());
        Check.due("nothing any more", 0, x.day(2));
        Check.due("of no departures", 0, new MaxplusJunction().day(2));
    }
}
