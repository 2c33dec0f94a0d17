/**
 * Each bound of each argument of each method: the least and the greatest value are taken, those next to
 * them and the farthest ones are refused with the exception that the document names, and a refused call
 * changes nothing that can be asked. The numbers of DEPARTURES, ARCS and TURNS are bounded by what there
 * is, so these are asked of nets of several sizes: one with nothing, one with one of each, one in between,
 * and one with all that there can be.
 */
public final class BoundsTest {
    private static final int RUN = 0;
    private static final int CONNECTION = 2;
    private static final int TRACK = 3;
    // How many DEPARTURES, ARCS and TURNS of the DAY there are.
    private static final int[] LEAST = {1, 1, 1};
    private static final int[] MIDDLE = {5, 9, 6};
    private static final int[] MOST = {14, 36, 12};

    public static void main(String[] args) {
        numbersThatAreTold();
        numbersOfADay();
        numbersThatAreAsked();
        numbersOfWhatWouldBe();
        for (int[] size : new int[][] {LEAST, MIDDLE, MOST}) {
            departuresOf(size);
            arcsOf(size);
            turnsOf(size);
        }
        arcsFromAndTo(LEAST);
        arcsFromAndTo(MIDDLE);
        pairsOf(MIDDLE);
        pairsOf(MOST);
        nothingToNumber();
        Check.end("BoundsTest");
    }

    /** ARCS of one KIND and a SHIFT of 1, round and round, some LATENESS, and what that KIND can have. */
    private static MaxplusJunction netOf(int[] size, int kind) {
        MaxplusJunction x = new MaxplusJunction();
        x.horizon(size[2]);
        for (int number = 0; number < size[0]; number++) {
            x.departure(number % 6, 7 * number, number + 1);
        }
        for (int number = 0; number < size[1]; number++) {
            x.arc(number % size[0], (number + 1) % size[0], 40 + number, 1, kind);
        }
        if (kind == CONNECTION) {
            x.riders(size[1] - 1, 5, true);
        } else if (kind == TRACK && size[1] > 5) {
            x.pair(3, 4);
            x.live(4, true);
        }
        x.storm(19, 60);
        return x;
    }

    private static Object[] with(Object[] good, int place, int value) {
        Object[] args = good.clone();
        args[place] = value;
        return args;
    }

    /** The argument at that place is least to most; all others are good ones. */
    private static void bounds(Answers.Maker net, String name, int place, int least, int most,
            String exception, Object... good) {
        for (int value : new int[] {least, most}) {
            Object[] args = with(good, place, value);
            String got = Answers.of(net.make(), name, args);
            Check.due(text(name, args) + " throws", false, got.endsWith("Exception"));
        }
        refused(net, name, place, least, most, exception, good);
    }

    private static void refused(Answers.Maker net, String name, int place, int least, int most,
            String exception, Object... good) {
        for (int value : new int[] {least - 1, most + 1}) {
            Object[] args = with(good, place, value);
            Check.refused(text(name, args), exception, net, x -> thrown(x, name, args));
        }
        for (int value : new int[] {Integer.MIN_VALUE, Integer.MAX_VALUE}) {
            Object[] args = with(good, place, value);
            Check.due(text(name, args), exception, Answers.of(net.make(), name, args));
        }
    }

    private static String thrown(MaxplusJunction x, String name, Object[] args) {
        return Answers.of(x, name, args);
    }

    private static String text(String name, Object[] args) {
        return name + java.util.Arrays.toString(args);
    }

    /** Promises 2 to 6 and 10: what the document bounds by numbers. */
    private static void numbersThatAreTold() {
        Answers.Maker net = () -> netOf(MIDDLE, CONNECTION);
        bounds(net, "riders", 1, 0, 99, Check.ARGUMENT, 8, 1, true);
        net = () -> netOf(MIDDLE, TRACK);
        bounds(net, "period", 0, 1, 500, Check.ARGUMENT, 7);
        bounds(net, "departure", 0, 0, 5, Check.ARGUMENT, 1, 1, 1);
        bounds(net, "departure", 1, 0, 999, Check.ARGUMENT, 1, 1, 1);
        bounds(net, "departure", 2, 0, 99, Check.ARGUMENT, 1, 1, 1);
        bounds(net, "move", 1, 0, 999, Check.ARGUMENT, 4, 1);
        bounds(net, "arc", 2, 1, 300, Check.ARGUMENT, 1, 4, 7, 0, RUN);
        bounds(net, "arc", 3, 0, 2, Check.ARGUMENT, 1, 4, 7, 0, RUN);
        bounds(net, "arc", 4, 0, 3, Check.ARGUMENT, 1, 4, 7, 0, RUN);
        bounds(MaxplusJunction::new, "lay", 0, 1, 4, Check.ARGUMENT, 1, 1);
        bounds(MaxplusJunction::new, "lay", 1, 0, 99, Check.ARGUMENT, 4, 1);
    }

    /** Promises 11, 12, 14 and 23 to 28. */
    private static void numbersOfADay() {
        Answers.Maker net = () -> netOf(MIDDLE, TRACK);
        bounds(net, "horizon", 0, 1, 12, Check.ARGUMENT, 7);
        bounds(net, "delay", 2, 0, 500, Check.ARGUMENT, 4, 5, 1);
        bounds(net, "storm", 0, 0, 99, Check.ARGUMENT, 1, 1);
        bounds(net, "storm", 1, 1, 100, Check.ARGUMENT, 1, 1);
        bounds(net, "at", 2, 0, 5, Check.ARGUMENT, 4, 5, 1);
        bounds(net, "day", 0, 0, 7, Check.ARGUMENT, 1);
        bounds(net, "ofLine", 0, 0, 5, Check.INDEX, 1, 1);
        bounds(net, "ofLine", 1, 0, 3, Check.ARGUMENT, 1, 1);
        bounds(net, "crews", 0, 0, 100, Check.ARGUMENT, 1);
    }

    /** Promises 16 to 18 and 20 to 22. */
    private static void numbersThatAreAsked() {
        Answers.Maker net = () -> netOf(MIDDLE, TRACK);
        bounds(net, "ofDeparture", 1, 0, 7, Check.ARGUMENT, 4, 1);
        bounds(net, "ofArc", 1, 0, 9, Check.ARGUMENT, 8, 1);
        bounds(net, "rings", 0, 0, 6, Check.ARGUMENT, 1);
        bounds(net, "feels", 1, 1, 500, Check.ARGUMENT, 4, 1);
        bounds(net, "free", 1, 0, 30, Check.ARGUMENT, 4, 1);
        bounds(net, "power", 2, 0, 30, Check.ARGUMENT, 4, 4, 1);
    }

    /** Promises 29 and 31 to 33. */
    private static void numbersOfWhatWouldBe() {
        Answers.Maker net = () -> netOf(MIDDLE, TRACK);
        bounds(net, "best", 0, 0, 2, Check.ARGUMENT, 1);
        bounds(net, "wave", 2, 0, 500, Check.ARGUMENT, 4, 5, 1);
        bounds(net, "wouldMake", 0, 1, 500, Check.ARGUMENT, 1);
        bounds(net, "heals", 0, 1, 100, Check.ARGUMENT, 1);
    }

    /** Each method that is told a DEPARTURE takes 0 up to the last one. */
    private static void departuresOf(int[] size) {
        Answers.Maker net = () -> netOf(size, TRACK);
        int last = size[0] - 1;
        bounds(net, "move", 0, 0, last, Check.INDEX, 0, 1);
        bounds(net, "delay", 0, 0, last, Check.INDEX, 0, 0, 1);
        bounds(net, "ofDeparture", 0, 0, last, Check.INDEX, 0, 1);
        bounds(net, "healing", 0, 0, last, Check.INDEX, 0, 0);
        bounds(net, "healing", 1, 0, last, Check.INDEX, 0, 0);
        bounds(net, "feels", 0, 0, last, Check.INDEX, 0, 1);
        bounds(net, "free", 0, 0, last, Check.INDEX, 0, 1);
        bounds(net, "power", 0, 0, last, Check.INDEX, 0, 0, 1);
        bounds(net, "power", 1, 0, last, Check.INDEX, 0, 0, 1);
        bounds(net, "at", 0, 0, last, Check.INDEX, 0, 0, 1);
        bounds(net, "board", 0, 0, last, Check.INDEX, 0);
        bounds(net, "ride", 0, 0, last, Check.INDEX, 0, 0, 0);
        bounds(net, "ride", 2, 0, last, Check.INDEX, 0, 0, 0);
        bounds(net, "wave", 0, 0, last, Check.INDEX, 0, 0, 1);
    }

    /** Promise 5, of nets that another ARC can be told to. */
    private static void arcsFromAndTo(int[] size) {
        Answers.Maker net = () -> netOf(size, RUN);
        bounds(net, "arc", 0, 0, size[0] - 1, Check.INDEX, 0, 0, 1, 1, RUN);
        bounds(net, "arc", 1, 0, size[0] - 1, Check.INDEX, 0, 0, 1, 1, RUN);
    }

    /** Each method that is told an ARC takes 0 up to the last one. */
    private static void arcsOf(int[] size) {
        Answers.Maker net = () -> netOf(size, CONNECTION);
        int last = size[1] - 1;
        bounds(net, "riders", 0, 0, last, Check.INDEX, 0, 1, true);
        net = () -> netOf(size, TRACK);
        bounds(net, "live", 0, 0, last, Check.INDEX, 0, false);
        bounds(net, "live", 0, 0, last, Check.INDEX, 0, true);
        bounds(net, "ofArc", 0, 0, last, Check.INDEX, 0, 1);
        bounds(net, "without", 0, 0, last, Check.INDEX, 0);
    }

    /** Promise 7: both numbers. */
    private static void pairsOf(int[] size) {
        Answers.Maker net = () -> netOf(size, TRACK);
        bounds(net, "pair", 0, 0, size[1] - 1, Check.INDEX, 0, 1);
        bounds(net, "pair", 1, 0, size[1] - 1, Check.INDEX, 1, 0);
    }

    /** Each method that is told a TURN of the DAY takes 0 to H - 1. */
    private static void turnsOf(int[] size) {
        Answers.Maker net = () -> netOf(size, TRACK);
        int last = size[2] - 1;
        bounds(net, "delay", 1, 0, last, Check.INDEX, 0, 0, 1);
        bounds(net, "at", 1, 0, last, Check.INDEX, 0, 0, 1);
        bounds(net, "ride", 1, 0, last, Check.INDEX, 0, 0, 0);
        bounds(net, "wave", 1, 0, last, Check.INDEX, 0, 0, 1);
    }

    /** Without DEPARTURES and ARCS there is no such one, whatever its number is. */
    private static void nothingToNumber() {
        Answers.Maker net = MaxplusJunction::new;
        Object[][] calls = {{"move", 0, 1}, {"arc", 0, 0, 1, 1, 0}, {"riders", 0, 1, true}, {"pair", 0, 1},
            {"pair", 0, 0}, {"live", 0, true}, {"live", 0, false}, {"delay", 0, 0, 1}, {"ofDeparture", 0, 0},
            {"ofArc", 0, 0}, {"healing", 0, 0}, {"feels", 0, 1}, {"free", 0, 0}, {"power", 0, 0, 0},
            {"at", 0, 0, 0}, {"board", 0}, {"ride", 0, 0, 0}, {"without", 0}, {"wave", 0, 0, 0}};
        for (Object[] call : calls) {
            String name = (String) call[0];
            Object[] good = java.util.Arrays.copyOfRange(call, 1, call.length);
            // 0 is refused as well as all others, so nothing is between the bounds.
            refused(net, name, 0, 1, -1, Check.INDEX, good);
        }
    }
}
