/**
 * "If several exceptions apply, the one that is named first is thrown." Each method for which two or
 * three of them can apply at once, in each way in which they can; and nothing is changed by it.
 */
public final class FirstNamedTest {
    private static final int RUN = 0;
    private static final int CONNECTION = 2;
    private static final int TRACK = 3;

    public static void main(String[] args) {
        departure();
        moveAndDelay();
        arc();
        arcOfAFullNet();
        riders();
        pair();
        lay();
        asked();
        askedOfADay();
        wouldBe();
        Check.end("FirstNamedTest");
    }

    /** Two DEPARTURES, ARCS of each KIND between them, all with a SHIFT of 1 but the first one; a PAIR. */
    private static MaxplusJunction small() {
        MaxplusJunction x = new MaxplusJunction();
        x.departure(0, 3, 1);
        x.departure(1, 9, 2);
        x.arc(0, 1, 5, 0, RUN);
        for (int kind = 1; kind < 4; kind++) {
            x.arc(0, 1, 5, 1, kind);
        }
        x.arc(0, 1, 6, 1, TRACK);
        x.pair(3, 4);
        x.live(4, true);
        x.delay(0, 2, 44);
        return x;
    }

    /** As many DEPARTURES and ARCS as there can be, of one KIND but the last two, which are a PAIR. */
    private static MaxplusJunction full(int kind) {
        MaxplusJunction x = new MaxplusJunction();
        for (int number = 0; number < 14; number++) {
            x.departure(number % 6, number, 1);
        }
        for (int number = 0; number < 36; number++) {
            x.arc(number % 14, (number + 1) % 14, 5, 1, number < 34 ? kind : TRACK);
        }
        x.pair(34, 35);
        x.live(35, true);
        return x;
    }

    private static void first(Answers.Maker net, String exception, String name, Object... args) {
        String text = name + java.util.Arrays.toString(args);
        Check.refused(text, exception, net, x -> Answers.of(x, name, args));
    }

    /** Promise 3: what is wrong by itself, then that there are 14. */
    private static void departure() {
        Answers.Maker net = () -> full(RUN);
        first(net, Check.STATE, "departure", 0, 0, 0);
        first(net, Check.ARGUMENT, "departure", 6, 0, 0);
        first(net, Check.ARGUMENT, "departure", -1, 0, 0);
        first(net, Check.ARGUMENT, "departure", 0, 1000, 0);
        first(net, Check.ARGUMENT, "departure", 0, -1, 0);
        first(net, Check.ARGUMENT, "departure", 0, 0, 100);
        first(net, Check.ARGUMENT, "departure", 0, 0, -1);
    }

    /** Promises 4 and 12: no such DEPARTURE or TURN, then the number. */
    private static void moveAndDelay() {
        Answers.Maker net = FirstNamedTest::small;
        first(net, Check.INDEX, "move", 2, 1000);
        first(net, Check.INDEX, "move", -1, -1);
        first(net, Check.INDEX, "delay", 2, 0, 501);
        first(net, Check.INDEX, "delay", -1, 0, -1);
        first(net, Check.INDEX, "delay", 0, 6, 501);
        first(net, Check.INDEX, "delay", 0, -1, -1);
        first(net, Check.INDEX, "delay", 2, 6, 501);
    }

    /** Promise 5: no such DEPARTURE, then the numbers, then a ring. */
    private static void arc() {
        Answers.Maker net = FirstNamedTest::small;
        for (int[] ends : new int[][] {{2, 0}, {0, 2}, {-1, 1}, {1, -1}, {2, 2}}) {
            first(net, Check.INDEX, "arc", ends[0], ends[1], 0, 1, RUN);
            first(net, Check.INDEX, "arc", ends[0], ends[1], 301, 1, RUN);
            first(net, Check.INDEX, "arc", ends[0], ends[1], 1, -1, RUN);
            first(net, Check.INDEX, "arc", ends[0], ends[1], 1, 3, RUN);
            first(net, Check.INDEX, "arc", ends[0], ends[1], 1, 1, -1);
            first(net, Check.INDEX, "arc", ends[0], ends[1], 1, 1, 4);
            first(net, Check.INDEX, "arc", ends[0], ends[1], 1, 0, RUN);
        }
        for (int[] ends : new int[][] {{1, 0}, {0, 0}, {1, 1}}) {
            first(net, Check.STATE, "arc", ends[0], ends[1], 1, 0, RUN);
            first(net, Check.ARGUMENT, "arc", ends[0], ends[1], 0, 0, RUN);
            first(net, Check.ARGUMENT, "arc", ends[0], ends[1], 301, 0, RUN);
            first(net, Check.ARGUMENT, "arc", ends[0], ends[1], 1, 0, -1);
            first(net, Check.ARGUMENT, "arc", ends[0], ends[1], 1, 0, 4);
        }
    }

    /** Promise 5: the same, with 36 that there are already. */
    private static void arcOfAFullNet() {
        Answers.Maker net = () -> full(RUN);
        first(net, Check.STATE, "arc", 0, 1, 1, 1, RUN);
        first(net, Check.STATE, "arc", 0, 0, 1, 0, RUN);
        first(net, Check.INDEX, "arc", 14, 0, 1, 1, RUN);
        first(net, Check.INDEX, "arc", 0, -1, 1, 1, RUN);
        first(net, Check.INDEX, "arc", 0, 14, 0, 3, 4);
        first(net, Check.ARGUMENT, "arc", 0, 1, 0, 1, RUN);
        first(net, Check.ARGUMENT, "arc", 0, 1, 1, 3, RUN);
        first(net, Check.ARGUMENT, "arc", 0, 1, 1, 1, 4);
        first(net, Check.ARGUMENT, "arc", 0, 0, 301, 0, RUN);
    }

    /** Promise 6: no such ARC, then RIDERS, then the KIND or a fifth one. */
    private static void riders() {
        Answers.Maker net = FirstNamedTest::small;
        first(net, Check.INDEX, "riders", 5, 100, true);
        first(net, Check.INDEX, "riders", -1, -1, false);
        for (int arc : new int[] {0, 1, 3, 4}) {
            first(net, Check.STATE, "riders", arc, 0, false);
            first(net, Check.STATE, "riders", arc, 99, true);
            first(net, Check.ARGUMENT, "riders", arc, 100, true);
            first(net, Check.ARGUMENT, "riders", arc, -1, false);
        }
        Answers.Maker loose = () -> {
            MaxplusJunction x = full(CONNECTION);
            for (int arc = 0; arc < 4; arc++) {
                x.riders(arc, 3, true);
            }
            return x;
        };
        first(loose, Check.STATE, "riders", 4, 1, true);
        first(loose, Check.ARGUMENT, "riders", 4, 100, true);
        first(loose, Check.ARGUMENT, "riders", 4, -1, true);
        first(loose, Check.INDEX, "riders", 36, 1, true);
        first(loose, Check.INDEX, "riders", 36, 100, true);
    }

    /** Promise 7: no such ARC, then that both are the same, then what they are, or that there are 3 PAIRS. */
    private static void pair() {
        Answers.Maker net = FirstNamedTest::small;
        first(net, Check.INDEX, "pair", 5, 5);
        first(net, Check.INDEX, "pair", -1, -1);
        first(net, Check.INDEX, "pair", 5, 0);
        first(net, Check.INDEX, "pair", 0, 5);
        first(net, Check.INDEX, "pair", 3, 5);
        first(net, Check.INDEX, "pair", -1, 4);
        first(net, Check.ARGUMENT, "pair", 0, 0);
        first(net, Check.ARGUMENT, "pair", 2, 2);
        first(net, Check.ARGUMENT, "pair", 3, 3);
        first(net, Check.STATE, "pair", 3, 4);
        Answers.Maker paired = () -> {
            MaxplusJunction x = full(TRACK);
            x.pair(0, 1);
            x.pair(2, 3);
            return x;
        };
        first(paired, Check.STATE, "pair", 6, 7);
        first(paired, Check.ARGUMENT, "pair", 6, 6);
        first(paired, Check.ARGUMENT, "pair", 1, 1);
        first(paired, Check.INDEX, "pair", 6, 36);
        first(paired, Check.INDEX, "pair", -1, 0);
        first(paired, Check.INDEX, "pair", 36, 36);
    }

    /** Promise 10: the numbers, then that there is a DEPARTURE. */
    private static void lay() {
        Answers.Maker net = FirstNamedTest::small;
        first(net, Check.STATE, "lay", 1, 0);
        first(net, Check.ARGUMENT, "lay", 0, 0);
        first(net, Check.ARGUMENT, "lay", 5, 0);
        first(net, Check.ARGUMENT, "lay", 1, -1);
        first(net, Check.ARGUMENT, "lay", 1, 100);
    }

    /** Promises 16, 17 and 20 to 22: no such one, then the number. */
    private static void asked() {
        Answers.Maker net = FirstNamedTest::small;
        for (int none : new int[] {-1, 2}) {
            for (int what : new int[] {-1, 8}) {
                first(net, Check.INDEX, "ofDeparture", none, what);
            }
            for (int delay : new int[] {0, 501}) {
                first(net, Check.INDEX, "feels", none, delay);
            }
            for (int number : new int[] {-1, 31}) {
                first(net, Check.INDEX, "free", none, number);
                first(net, Check.INDEX, "power", none, 0, number);
                first(net, Check.INDEX, "power", 0, none, number);
            }
        }
        for (int none : new int[] {-1, 5}) {
            for (int what : new int[] {-1, 10}) {
                first(net, Check.INDEX, "ofArc", none, what);
            }
        }
    }

    /** Promises 23 and 27. */
    private static void askedOfADay() {
        Answers.Maker net = FirstNamedTest::small;
        for (int what : new int[] {-1, 6}) {
            first(net, Check.INDEX, "at", -1, 0, what);
            first(net, Check.INDEX, "at", 2, 0, what);
            first(net, Check.INDEX, "at", 0, -1, what);
            first(net, Check.INDEX, "at", 0, 6, what);
        }
        for (int what : new int[] {-1, 4}) {
            first(net, Check.INDEX, "ofLine", -1, what);
            first(net, Check.INDEX, "ofLine", 6, what);
        }
    }

    /** Promises 31 and 32. */
    private static void wouldBe() {
        Answers.Maker net = FirstNamedTest::small;
        for (int minutes : new int[] {-1, 501}) {
            first(net, Check.INDEX, "wave", -1, 0, minutes);
            first(net, Check.INDEX, "wave", 2, 0, minutes);
            first(net, Check.INDEX, "wave", 0, -1, minutes);
            first(net, Check.INDEX, "wave", 0, 6, minutes);
        }
        first(MaxplusJunction::new, Check.STATE, "wouldMake", 1);
        first(MaxplusJunction::new, Check.STATE, "wouldMake", 500);
        first(MaxplusJunction::new, Check.ARGUMENT, "wouldMake", 0);
        first(MaxplusJunction::new, Check.ARGUMENT, "wouldMake", 501);
        first(MaxplusJunction::new, Check.STATE, "make");
    }
}
