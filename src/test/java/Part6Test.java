/**
 * "6. Lines and crews": a method for each sentence of this part of the document's "Description"; of the last
 * two several.
 */
public final class Part6Test {
    public static void main(String[] args) {
        causesAndSuffers();
        runsThatAreWorked();
        turnsOfTheDay();
        beginsAndEnds();
        goesOn();
        whereItEnded();
        restIsTaken();
        fewest();
        Check.end("Part6Test");
    }

    /** "A LINE CAUSES the MINUTES of its DEPARTURES, and SUFFERS LATE of all their TURNS." */
    private static void causesAndSuffers() {
        MaxplusJunction x = new MaxplusJunction();
        int[] lines = {5, 0, 5, 2};
        for (int departure = 0; departure < 4; departure++) {
            x.departure(lines[departure], 10 * departure, 9);
        }
        x.arc(0, 1, 10, 0, Nets.RUN);
        x.arc(1, 3, 15, 0, Nets.CONNECTION);
        x.delay(0, 1, 20);
        x.delay(1, 4, 6);
        x.delay(2, 0, 7);
        x.delay(3, 2, 4);
        int[][] want = {{1, 6 + 1, 20 + 6, 20}, {0, 0, 0, 0}, {1, 4, 15 + 1 + 4, 15}, {0, 0, 0, 0}, {0, 0, 0, 0},
            {2, 20 + 20 + 15 + 7, 20 + 7, 20}};
        for (int line = 0; line < 6; line++) {
            Check.dueEach(x, "ofLine", new Object[] {line}, want[line]);
        }
    }

    /** A RUN of 20 from OFFSET 0 to OFFSET 30, and one of 20 back, with a PERIOD of 60. */
    private static MaxplusJunction thereAndBack(int kind, int kindBack) {
        MaxplusJunction x = Nets.of(0, 30);
        x.arc(0, 1, 20, 0, kind);
        x.arc(1, 0, 20, 1, kindBack);
        return x;
    }

    /**
     * "CREWS work all RUNS that are LIVE, of all TURNS k of the DAY of their first DEPARTURE: such a one begins
     * at that, at REAL of the TURN k, and ends at the second DEPARTURE, TIME later." First: which ones.
     */
    private static void runsThatAreWorked() {
        int[] want = {6, 0, 0, 0};
        for (int kind = 0; kind < 4; kind++) {
            MaxplusJunction x = Nets.of(0, 30);
            x.arc(0, 1, 20, 0, kind);
            Check.due("kind " + kind, want[kind], x.crews(0));
            x.live(0, false);
            Check.due("broken", 0, x.crews(0));
        }
        MaxplusJunction x = Nets.of(0, 30);
        for (int arcs = 0; arcs < 4; arcs++) {
            Check.due(arcs + " of them", 6 * arcs, x.crews(0));
            x.arc(0, 1, 20 + arcs, arcs % 3, Nets.RUN);
        }
        x.live(1, false);
        Check.due("one is broken", 18, x.crews(0));
        MaxplusJunction y = Nets.of(0, 30, 60);
        y.arc(0, 1, 20, 0, Nets.RUN);
        y.arc(1, 2, 20, 0, Nets.RUN);
        Check.due("six go on", 6, y.crews(0));
        y.live(0, false);
        Check.due("none goes on from a broken one", 6, y.crews(0));
        y.arc(0, 1, 20, 0, Nets.RUN);
        Check.due("but from one that is live", 6, y.crews(0));
    }

    /**
     * "of all TURNS k of the DAY of their first DEPARTURE", also if the TURN k + SHIFT of the second one is
     * not in it.
     */
    private static void turnsOfTheDay() {
        MaxplusJunction x = Nets.of(0, 30);
        x.arc(0, 1, 20, 2, Nets.RUN);
        for (int turns : new int[] {1, 2, 12}) {
            x.horizon(turns);
            Check.due(turns + " turns", turns, x.crews(0));
        }
    }

    /** "such a one begins at that, at REAL of the TURN k, and ends at the second DEPARTURE, TIME later" */
    private static void beginsAndEnds() {
        MaxplusJunction x = thereAndBack(Nets.RUN, Nets.RUN);
        x.horizon(1);
        Check.due("20 is ahead of 30", 1, x.crews(10));
        Check.due("by 10", 2, x.crews(11));
        x.delay(0, 0, 10);
        Check.due("30 is no later than 30", 1, x.crews(0));
        Check.due("not by 1", 2, x.crews(1));
        x.delay(1, 0, 9);
        Check.due("39 is later by 9", 1, x.crews(9));
        Check.due("not by 10", 2, x.crews(10));
        MaxplusJunction y = Nets.of(0, 30);
        y.horizon(1);
        y.arc(0, 1, 50, 2, Nets.RUN);
        y.arc(1, 0, 20, 2, Nets.RUN);
        Check.due("it ends at 50, though no turn waits for it", 2, y.crews(0));
        y.delay(1, 0, 20);
        Check.due("in time for 50", 1, y.crews(0));
    }

    /**
     * "A CREW goes on from one to another one that begins at the DEPARTURE where the first one ended, no sooner
     * than its end and REST together." One goes round and round.
     */
    private static void goesOn() {
        MaxplusJunction x = thereAndBack(Nets.RUN, Nets.RUN);
        Check.due("one crew works 12 of them", 1, x.crews(10));
        Check.due("5 go on at 1, a turn later, and 4 at 0, two turns later", 12 - 5 - 4, x.crews(11));
        Check.due("by a rest of 70, too", 12 - 5 - 4, x.crews(70));
        Check.due("4 go on at 1 and 3 at 0", 12 - 4 - 3, x.crews(71));
        MaxplusJunction y = Nets.of(0);
        y.arc(0, 0, 50, 1, Nets.RUN);
        Check.due("to where it began", 1, y.crews(10));
        Check.due("to where it began, every second turn", 2, y.crews(11));
    }

    /** "that begins at the DEPARTURE where the first one ended" */
    private static void whereItEnded() {
        MaxplusJunction x = Nets.of(0, 30, 30);
        x.arc(0, 1, 20, 0, Nets.RUN);
        x.arc(2, 0, 20, 1, Nets.RUN);
        Check.due("from 2 to 0 and on, but not from 1 to 2", 7, x.crews(10));
        Check.due("not from 2 to 0 by more", 8, x.crews(11));
        x.arc(1, 2, 1, 0, Nets.CONNECTION);
        Check.due("no crew goes by a connection", 7, x.crews(9));
    }

    /** "no sooner than its end and REST together" */
    private static void restIsTaken() {
        MaxplusJunction x = Nets.of(0, 30);
        x.horizon(1);
        x.arc(0, 1, 20, 0, Nets.RUN);
        x.arc(1, 0, 5, 1, Nets.RUN);
        for (int rest = 0; rest <= 100; rest++) {
            Check.due("rest of " + rest, rest <= 10 ? 1 : 2, x.crews(rest));
        }
        for (int rest : new int[] {-1, 101}) {
            Check.refused("rest of " + rest, Check.ARGUMENT, x, () -> x.crews(rest));
        }
    }

    /** Two that end and two that begin at a DEPARTURE: as many as can go on, whichever way round they are told. */
    private static void fewest() {
        MaxplusJunction x = Nets.of(0, 10, 30, 50);
        x.horizon(1);
        x.arc(0, 2, 20, 0, Nets.RUN);
        x.arc(1, 2, 20, 0, Nets.RUN);
        x.arc(2, 3, 10, 0, Nets.RUN);
        x.arc(2, 3, 11, 0, Nets.RUN);
        Check.due("20 and 30 are no later than 30", 2, x.crews(0));
        Check.due("one goes on from 20", 3, x.crews(1));
        Check.due("none can", 4, x.crews(11));
        MaxplusJunction y = Nets.of(0, 30, 50);
        y.horizon(2);
        y.arc(0, 1, 20, 0, Nets.RUN);
        y.arc(1, 2, 20, 0, Nets.RUN);
        Check.due("20 for 30 and 80 for 90", 2, y.crews(10));
        Check.due("20 for 90", 3, y.crews(11));
        y.delay(1, 0, 100);
        Check.due("20 for 90, which is turn 1, and 80 for 130, which is turn 0", 2, y.crews(11));
        Check.due("the same by 50, as 80 and 50 are 130", 2, y.crews(50));
        Check.due("not by 51", 3, y.crews(51));
    }
}
